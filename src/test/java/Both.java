import java.lang.reflect.InvocationTargetException;
import java.lang.reflect.Method;
import java.util.ArrayList;
import java.util.Arrays;
import java.util.HashMap;
import java.util.List;
import java.util.Map;

/** Makes each call on a PostSieve and on a Model, and compares the answers and the exceptions. */
final class Both {
    private static final Map<String, Method> SIEVE = methods(PostSieve.class);
    private static final Map<String, Method> MODEL = methods(Model.class);
    private final PostSieve sieve = new PostSieve();
    private final Model model = new Model();
    private final List<String> calls = new ArrayList<>();
    private int wrong;

    private static Map<String, Method> methods(Class<?> kind) {
        Map<String, Method> methods = new HashMap<>();
        for (Method method : kind.getDeclaredMethods()) {
            boolean isNew = PostSieve.class != kind || java.lang.reflect.Modifier.isPublic(method.getModifiers());
            if (isNew && !java.lang.reflect.Modifier.isPrivate(method.getModifiers())) {
                method.setAccessible(true);
                methods.put(method.getName(), method);
            }
        }
        return methods;
    }

    static int methodCount() {
        return SIEVE.size();
    }

    private static Object answer(Method method, Object object, Object[] arguments) {
        try {
            return method.invoke(object, arguments);
        } catch (InvocationTargetException thrown) {
            return thrown.getCause().getClass().getName();
        } catch (IllegalAccessException wrong) {
            throw new AssertionError(wrong);
        }
    }

    /** Answers what the class answered, or the name of the exception that it threw. */
    Object call(String name, Object... arguments) {
        Object got = answer(SIEVE.get(name), sieve, arguments);
        Object due = answer(MODEL.get(name), model, arguments);
        calls.add(name + Arrays.toString(arguments) + " " + got);
        if (!got.equals(due)) {
            wrong++;
            System.out.println(name + Arrays.toString(arguments) + " answered " + got + ", due is " + due);
        }
        return got;
    }

    int number(String name, Object... arguments) {
        Object got = call(name, arguments);
        return got instanceof Integer ? (Integer) got : -1;
    }

    void tape(String text) {
        call("cut", 0);
        for (int at = 0; at < text.length(); at += 20) {
            int[] n = new int[5];
            for (int sign = at; sign < at + 20; sign++) {
                n[(sign - at) / 4] = n[(sign - at) / 4] << 8 | (sign < text.length() ? text.charAt(sign) & 255 : 0);
            }
            call("feed", n[0], n[1], n[2], n[3], n[4]);
        }
        call("cut", text.length());
    }

    void word(String text) {
        call("clear");
        for (char sign : text.toCharArray()) {
            call("word", sign);
        }
    }

    void compareMessage(int message) {
        int parts = number("parts", message);
        for (int part = -1; part <= parts; part++) {
            call("typeOf", message, part);
            call("parentOf", message, part);
            int bytes = number("bytes", message, part);
            for (int at = -1; at <= bytes; at++) {
                call("byteAt", message, part, at);
            }
        }
        int length = number("subject", message);
        for (int at = -1; at <= length; at++) {
            call("subjectAt", message, at);
        }
        for (int at = -1; at <= 5; at++) {
            call("address", message, at);
        }
        for (String name : List.of("idOf", "seal", "isSame", "thread", "above")) {
            call(name, message);
        }
    }

    void compareAll() {
        for (int message = 0; message < 20; message++) {
            for (String name : List.of("thread", "above", "isSame")) {
                call(name, message);
            }
        }
        for (int person = -1; person < 5; person++) {
            call("room", person);
            call("readShare", person);
            for (int box = -1; box < 5; box++) {
                int items = number("items", person, box);
                for (int at = -1; at <= items; at++) {
                    call("itemAt", person, box, at);
                }
                int mark = number("mark", person, box);
                for (int since = 0; since <= mark; since++) {
                    call("changedSince", person, box, since);
                    call("goneSince", person, box, since);
                }
            }
        }
        for (char what : "clfadx".toCharArray()) {
            call("counted", what);
        }
        call("threads");
        call("meanParts");
    }

    int wrong() {
        return wrong;
    }

    List<String> calls() {
        return calls;
    }
}

import java.lang.reflect.Constructor;
import java.lang.reflect.Field;
import java.lang.reflect.Method;
import java.lang.reflect.Modifier;
import java.util.ArrayList;
import java.util.Arrays;
import java.util.HashSet;
import java.util.List;
import java.util.Set;
import java.util.TreeSet;

/** The face of the class: what is public, and what each method is declared to throw. */
public final class FaceTest {
    private static final String FACE = """
            int feed(int,int,int,int,int) UnsupportedOperationException
            int cut(int) IllegalArgumentException
            int addPerson(char,int) IllegalArgumentException UnsupportedOperationException IllegalStateException
            int setQuota(int,int) IndexOutOfBoundsException IllegalArgumentException
            int setHoliday(int,int,int,int) IndexOutOfBoundsException IllegalArgumentException
            int pass(int) IllegalArgumentException
            int send() IllegalStateException
            int word(char) IllegalArgumentException IllegalStateException
            int clear()
            int addScript() IllegalStateException
            int addRule(int,char,boolean,char,int) IndexOutOfBoundsException IllegalArgumentException IllegalStateException
            int dropRules(int) IndexOutOfBoundsException
            int setScript(int,int) IndexOutOfBoundsException
            int parts(int) IndexOutOfBoundsException
            char typeOf(int,int) IndexOutOfBoundsException
            int parentOf(int,int) IndexOutOfBoundsException NoSuchElementException
            int bytes(int,int) IndexOutOfBoundsException UnsupportedOperationException
            int byteAt(int,int,int) IndexOutOfBoundsException UnsupportedOperationException NoSuchElementException
            int subject(int) IndexOutOfBoundsException
            char subjectAt(int,int) IndexOutOfBoundsException NoSuchElementException
            int address(int,int) IndexOutOfBoundsException NoSuchElementException
            int idOf(int) IndexOutOfBoundsException NoSuchElementException
            int seal(int) IndexOutOfBoundsException
            boolean isSame(int) IndexOutOfBoundsException
            int items(int,int) IndexOutOfBoundsException
            int itemAt(int,int,int) IndexOutOfBoundsException NoSuchElementException
            int room(int) IndexOutOfBoundsException
            int mark(int,int) IndexOutOfBoundsException
            int changedSince(int,int,int) IndexOutOfBoundsException
            int goneSince(int,int,int) IndexOutOfBoundsException
            int grant(int,int,int,int) IndexOutOfBoundsException IllegalArgumentException
            int open(int,int,int) IndexOutOfBoundsException UnsupportedOperationException IllegalStateException
            int close(int) NoSuchElementException
            int sees(int) NoSuchElementException
            int numberAt(int,int) NoSuchElementException IndexOutOfBoundsException
            int flagsAt(int,int) NoSuchElementException IndexOutOfBoundsException
            int setFlags(int,int,int) NoSuchElementException IndexOutOfBoundsException IllegalArgumentException UnsupportedOperationException IllegalStateException
            int remove(int,int) NoSuchElementException IndexOutOfBoundsException UnsupportedOperationException IllegalStateException
            int move(int,int,int) NoSuchElementException IndexOutOfBoundsException UnsupportedOperationException IllegalStateException
            int told(int) NoSuchElementException
            int find(int,char,int) NoSuchElementException IllegalArgumentException
            int thread(int) IndexOutOfBoundsException NoSuchElementException
            int above(int) IndexOutOfBoundsException NoSuchElementException
            int threads()
            int counted(char) IllegalArgumentException
            float readShare(int) IndexOutOfBoundsException ArithmeticException
            double meanParts() ArithmeticException
            """;

    public static void main(String[] args) {
        Set<String> due = new TreeSet<>(Arrays.asList(FACE.split("\n")));
        Set<String> got = new TreeSet<>();
        Set<String> names = new HashSet<>();
        for (Method method : PostSieve.class.getDeclaredMethods()) {
            if (!Modifier.isPrivate(method.getModifiers())) {
                got.add(told(method));
                names.add(method.getName());
                Check.due("public " + method.getName(), Modifier.PUBLIC, method.getModifiers());
            }
        }
        Check.due("the methods of the face", due, got);
        Check.due("the class", Modifier.PUBLIC | Modifier.FINAL, PostSieve.class.getModifiers());
        Constructor<?>[] constructors = PostSieve.class.getDeclaredConstructors();
        Check.due("one constructor", 1, constructors.length);
        Check.due("it is public", Modifier.PUBLIC, constructors[0].getModifiers());
        Check.due("without parameters", 0, constructors[0].getParameterCount());
        for (Field field : PostSieve.class.getDeclaredFields()) {
            Check.due("private " + field.getName(), true, Modifier.isPrivate(field.getModifiers()));
        }
        hidden(names);
        Check.end("FaceTest");
    }

    private static String told(Method method) {
        List<String> kinds = new ArrayList<>();
        for (Class<?> kind : method.getParameterTypes()) {
            kinds.add(kind.getSimpleName());
        }
        StringBuilder told = new StringBuilder(method.getReturnType().getSimpleName());
        told.append(' ').append(method.getName()).append('(').append(String.join(",", kinds)).append(')');
        for (Class<?> thrown : method.getExceptionTypes()) {
            told.append(' ').append(thrown.getSimpleName());
        }
        return told.toString();
    }

    /** The classes inside are private and static, and no other method bears a name of the face. */
    private static void hidden(Set<String> names) {
        for (Method method : PostSieve.class.getDeclaredMethods()) {
            boolean isHidden = Modifier.isPrivate(method.getModifiers());
            Check.due("the name of " + method, false, isHidden && names.contains(method.getName()));
        }
        for (Class<?> inside : PostSieve.class.getDeclaredClasses()) {
            Check.due(inside + " is static", true, Modifier.isStatic(inside.getModifiers()));
            Check.due(inside + " is hidden", false, Modifier.isPublic(inside.getModifiers()));
            for (Method method : inside.getDeclaredMethods()) {
                Check.due("the name of " + method, false, names.contains(method.getName()));
            }
        }
        Check.due("some twelve classes", true, PostSieve.class.getDeclaredClasses().length <= 11);
    }
}

import java.util.NoSuchElementException;

/** A PostSieve with short ways to use it, and a count of what was not as it was due. */
final class Check {
    static final Class<?> INDEX = IndexOutOfBoundsException.class;
    static final Class<?> ARGUMENT = IllegalArgumentException.class;
    static final Class<?> STATE = IllegalStateException.class;
    static final Class<?> NOT_SUPPORTED = UnsupportedOperationException.class;
    static final Class<?> NONE_SUCH = NoSuchElementException.class;
    static final Class<?> ARITHMETIC = ArithmeticException.class;

    interface Call {
        Object make();
    }

    private static int count;
    private static int wrong;
    final PostSieve post = new PostSieve();

    static void due(String what, Object due, Object got) {
        count++;
        if (!due.equals(got)) {
            wrong++;
            System.out.println(what + " answered " + got + ", due is " + due);
        }
    }

    static void thrown(String what, Class<?> due, Call call) {
        answered(what, due, call);
    }

    /** What the call answers, or the class of what it throws. */
    static void answered(String what, Object due, Call call) {
        Object got;
        try {
            got = call.make();
        } catch (RuntimeException thrown) {
            got = thrown.getClass();
        }
        due(what, due, got);
    }

    static void end(String name) {
        System.out.println(name + ": " + count + " answers, " + wrong + " wrong");
        System.exit(wrong > 0 || count == 0 ? 1 : 0);
    }

    Check people(String... addresses) {
        for (String address : addresses) {
            post.addPerson(address.charAt(0), address.charAt(1) - '0');
        }
        return this;
    }

    Check scripts(int many) {
        for (int left = many; left > 0; left--) {
            post.addScript();
        }
        return this;
    }

    Check word(String text) {
        post.clear();
        for (char sign : text.toCharArray()) {
            post.word(sign);
        }
        return this;
    }

    /** Tells a rule as "test action n pattern", with a '!' ahead if it is turned round. */
    Check rule(int script, String told) {
        boolean isTurned = told.charAt(0) == '!';
        String rule = isTurned ? told.substring(1) : told;
        String[] words = rule.split(" ", 4);
        word(words.length > 3 ? words[3] : "");
        post.addRule(script, words[0].charAt(0), isTurned, words[1].charAt(0), Integer.parseInt(words[2]));
        return this;
    }

    void tape(String text) {
        post.cut(0);
        for (int at = 0; at < text.length(); at += 20) {
            int[] n = new int[5];
            for (int sign = at; sign < at + 20; sign++) {
                n[(sign - at) / 4] = n[(sign - at) / 4] << 8 | (sign < text.length() ? text.charAt(sign) & 255 : 0);
            }
            post.feed(n[0], n[1], n[2], n[3], n[4]);
        }
        post.cut(text.length());
    }

    int mail(String text) {
        tape(text);
        return post.send();
    }

    String subjectOf(int message) {
        StringBuilder subject = new StringBuilder();
        for (int at = 0; at < post.subject(message); at++) {
            subject.append(post.subjectAt(message, at));
        }
        return subject.toString();
    }

    /** The subject of a message with this value of the field. */
    static String subject(String value) {
        Check check = new Check();
        return check.subjectOf(check.mail("subject:" + value + "\n\n"));
    }

    String text(int message, int part) {
        StringBuilder text = new StringBuilder();
        for (int at = 0; at < post.bytes(message, part); at++) {
            text.append((char) post.byteAt(message, part, at));
        }
        return text.toString();
    }

    /** All parts as type, parent and, of a text, its bytes: "m- t0[a] t0[b]". */
    static String shape(String data) {
        Check check = new Check();
        int message = check.mail(data);
        StringBuilder shape = new StringBuilder();
        for (int part = 0; part < check.post.parts(message); part++) {
            char type = check.post.typeOf(message, part);
            shape.append(part == 0 ? "" : " ").append(type);
            shape.append(part == 0 ? "-" : String.valueOf(check.post.parentOf(message, part)));
            shape.append(type == 't' ? "[" + check.text(message, part) + "]" : "");
        }
        due("isSame of " + data, true, check.post.isSame(message));
        return shape.toString();
    }

    /** The numbers and messages of the items of a box: "1:0 2:1". */
    String box(int person, int box) {
        StringBuilder items = new StringBuilder();
        for (int at = 0; at < post.items(person, box); at++) {
            int item = post.itemAt(person, box, at);
            items.append(at == 0 ? "" : " ").append(item / 100).append(':').append(item % 100);
        }
        return items.toString();
    }

    /** What a session sees: "number/flags number/flags". */
    String seen(int session) {
        StringBuilder items = new StringBuilder();
        for (int at = 0; at < post.sees(session); at++) {
            items.append(at == 0 ? "" : " ").append(post.numberAt(session, at));
            items.append('/').append(post.flagsAt(session, at));
        }
        return items.toString();
    }
}

import java.util.Random;

/** Makes texts of messages, most of them well formed, some of them not. */
final class Mails {
    private static final String[] ADDRESSES = {"a1", "b2", "c3", "d4", "z9", "A1", "aa1", "a12", "e5"};
    private static final String[] SUBJECTS = {"x", "Re: x", "re:re: X", "Fwd: x (fwd)", "hello", "RE: hello",
        "fwd:hello (FWD) (fwd)", "=?q?Re:_x?=", "=?q?a?= =?q?b?=", "=?q?a?=  \n =?q?=4?=", "=?q?(x?=", "=?q?=28fwd=29?=",
        "x =?q?=28fwd=29?=", "re:", "", "=?q??=", "=?q?a b?=", "=?q?=0A=7f=80=7E?=", "=?q?=e?= b =?q?=G1?=", "re : x",
        "=?q?a?=b =?q?c?=", "=?q?a?==?q?b?= =?q?c?= d"};
    private static final String[] PLAIN = {"hi", "a=20b", "=\n", "= \t\nx", "=3", "=3d=3D", "QUJD", "QUI=", "Q\nUJ D",
        "--ab", "\n", " ", "--", "x \t", "ab:c\n\n", "----", "Zm9vYmFy", "=\t=41"};
    private final Random random;

    Mails(Random random) {
        this.random = random;
    }

    private boolean rarely() {
        return random.nextInt(8) == 0;
    }

    private String oneOf(String... all) {
        return all[random.nextInt(all.length)];
    }

    String message() {
        if (random.nextInt(16) == 0) {
            return noise();
        }
        StringBuilder text = new StringBuilder();
        if (random.nextInt(6) > 0) {
            field(text, "from", list(ADDRESSES, 1));
        }
        field(text, "to", list(ADDRESSES, 1 + random.nextInt(5)));
        if (random.nextInt(3) > 0) {
            field(text, "subject", oneOf(SUBJECTS) + (rarely() ? long60() : ""));
        }
        if (random.nextInt(5) > 0) {
            field(text, "id", (random.nextInt(12) + 1) + oneOf("", "", "", " x", "234567", ";"));
        }
        if (random.nextInt(2) > 0) {
            StringBuilder refs = new StringBuilder();
            for (int left = random.nextInt(rarely() ? 9 : 4); left > 0; left--) {
                refs.append(oneOf(" ", " ", ",", "x")).append(random.nextInt(14) + (rarely() ? 1234567 : 0));
            }
            field(text, "refs", refs.toString());
        }
        if (rarely()) {
            field(text, "list", oneOf("", "news", "a*b", long60()));
        }
        if (rarely()) {
            text.append(oneOf("no colon\n", "no colon\n it: has\n", " : x\n", "from: b2\n", "x:\n", "FROM :c3 \n"));
        }
        part(text, 1);
        String made = text.length() > 1980 ? text.substring(0, 1980) : text.toString();
        return random.nextInt(4) == 0 ? spoilt(made) : made;
    }

    /** Words that mean something, in no order. */
    private String noise() {
        String[] words = {"\n", "\n", "\n", " ", "\t", "-", "--", "--ab", "--ab--", "=", ":", ";", "(", ")", "?", "?=",
            "=?q?", "_", "=41", "a", "b", "b*0=ab", "b=ab", "b=", "0", "17", "a1", "b2", "from:", "to:", "subject:",
            "id:", "refs:", "list:", "type:", "coding:", "multi", "wrap", "q", "type:multi;b=ab", "type:wrap",
            "coding:q", "coding:b\n\n", "\0", "\u00ff", "re:", "\n--ab\n", "\n--ab\n\n"};
        StringBuilder text = new StringBuilder(random.nextBoolean() ? "to:a1,b2\n" : "");
        for (int left = random.nextInt(rarely() ? 400 : 60); left > 0; left--) {
            text.append(oneOf(words));
        }
        return text.length() > 2000 ? text.substring(0, 2000) : text.toString();
    }

    private String long60() {
        StringBuilder text = new StringBuilder();
        for (int left = 50 + random.nextInt(20); left > 0; left--) {
            text.append(oneOf("a", "b", "c", " d"));
        }
        return text.toString();
    }

    private String list(String[] all, int count) {
        StringBuilder text = new StringBuilder();
        for (int left = count; left > 0; left--) {
            text.append(rarely() ? oneOf(all) : all[random.nextInt(4)]).append(oneOf(",", " ", ";", "(x)", ", "));
        }
        return text.toString();
    }

    private void field(StringBuilder text, String name, String value) {
        text.append(rarely() ? oneOf(" ", "\t", name.toUpperCase() + ":q\n") : "");
        text.append(rarely() ? name.toUpperCase() : name).append(rarely() ? oneOf(" ", "\t", "\n ") : "").append(':');
        for (char sign : value.toCharArray()) {
            text.append(sign);
            if (random.nextInt(60) == 0) {
                text.append(oneOf("(x)", "((a)b)", ")", " \t", "\n ", "(", "\n\t"));
            }
        }
        text.append('\n');
    }

    private void part(StringBuilder text, int depth) {
        int kind = depth > 8 ? 9 : random.nextInt(depth > 3 ? 5 : 8);
        String bound = oneOf("ab", "ab", "cd", "a b", "x--", "ab--", "e;f", "-");
        if (kind < 2) {
            String value = oneOf("multi; b=" + bound, "multi;b=" + bound, "multi;x=1; b = " + bound + " ;b=no",
                    "multix;b*0=" + bound.substring(0, 1) + "; b*1=" + bound.substring(1) + ";b*3=z",
                    "multi;b*1=" + bound + ";b*0=", "multi;b;b=" + bound, "multi ;b=" + bound);
            field(text, "type", rarely() ? oneOf("multi", "multi;b=;b*0=ab", "multi;B=ab", "Multi;b=ab") : value);
            text.append('\n');
            body(text, bound, depth);
        } else if (kind == 2) {
            field(text, "type", oneOf("wrap", "wrapped", "wrap;b=ab"));
            text.append('\n');
            part(text, depth + 1);
        } else {
            if (random.nextInt(2) == 0) {
                field(text, "coding", oneOf("q", "b", "q", "b", "Q", "x", ""));
            }
            text.append(rarely() ? "" : "\n");
            for (int left = random.nextInt(6); left > 0; left--) {
                text.append(rarely() ? String.valueOf((char) random.nextInt(256)) : oneOf(PLAIN));
            }
        }
    }

    private void body(StringBuilder text, String bound, int depth) {
        text.append(rarely() ? oneOf("before\n", "--" + bound + "--\n", "\n") : "");
        for (int left = random.nextInt(rarely() ? 12 : 4); left > 0; left--) {
            text.append("--").append(bound).append(rarely() ? oneOf(" ", "\t ", "-", " x", "--") : "").append('\n');
            part(text, depth + 1);
            text.append(rarely() ? "" : "\n");
        }
        text.append(rarely() ? "" : "--" + bound + oneOf("--", "--", "-- ", "--\nbehind\n", ""));
    }

    private String spoilt(String made) {
        StringBuilder text = new StringBuilder(made);
        for (int left = 1 + random.nextInt(6); left > 0 && text.length() > 0; left--) {
            int at = random.nextInt(text.length());
            int kind = random.nextInt(4);
            if (kind == 0) {
                text.deleteCharAt(at);
            } else if (kind == 1) {
                text.setCharAt(at, (char) random.nextInt(256));
            } else if (kind == 2) {
                text.insert(at, oneOf("\n", " ", "\n\n", "(", ")", ":", ";", "=", "\t", "?"));
            } else {
                text.setLength(at);
            }
        }
        return text.length() > 2000 ? text.substring(0, 2000) : text.toString();
    }
}

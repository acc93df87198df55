/** Which signs count as blanks, digits, letters and so on: those at both ends of each kind, and those beside them. */
public final class SignsTest {
    public static void main(String[] args) {
        blanksOfHeads();
        blanksOfBodies();
        shownSigns();
        hexDigits();
        sixBitSigns();
        addressSigns();
        neighbours();
        digits();
        smallLetters();
        Check.end("SignsTest");
    }

    /** Signs that are no blanks, though some take them for such. */
    private static char[] noBlanks() {
        return new char[] {0, 8, 11, 12, 13, 31, 33, 133, 160};
    }

    private static String parts(String data) {
        return Check.shape(data);
    }

    private static void blanksOfHeads() {
        for (char blank : new char[] {' ', '\t'}) {
            String of = " with the blank " + (int) blank;
            Check.due("16: goes on" + of, "w- t0[]", parts("type:\n" + blank + "wrap\n\n"));
            Check.due("16: around a name" + of, "w- t0[]", parts(blank + "type" + blank + ":wrap\n\n"));
            Check.due("16: around a value" + of, "w- t0[]", parts("type:" + blank + "wrap" + blank + "\n\n"));
            Check.due("15: around a parameter" + of, "m- t0[]",
                    parts("type:multi" + blank + ";" + blank + "b" + blank + "=" + blank + "x" + blank + "\n\n--x"));
            Check.due("21: one blank" + of, "a b", Check.subject("a" + blank + "b"));
            Check.due("21: not in a coded word" + of, "=?q?a b?=", Check.subject("=?q?a" + blank + "b?="));
            Check.due("21: between coded words" + of, "ab", Check.subject("=?q?a?=" + blank + "=?q?b?="));
        }
        for (char other : noBlanks()) {
            String of = " with the sign " + (int) other;
            Check.due("16: does not go on" + of, "t-[]", parts("type:\n" + other + "wrap\n\n"));
            Check.due("16: ahead of a name" + of, "t-[]", parts(other + "type:wrap\n\n"));
            Check.due("16: behind a name" + of, "t-[]", parts("type" + other + ":wrap\n\n"));
            Check.due("16: ahead of a value" + of, "t-[]", parts("type:" + other + "wrap\n\n"));
            Check.due("18: behind a value" + of, "t-[=41]", parts("coding:q" + other + "\n\n=41"));
            Check.due("15: behind the name of a parameter" + of, "t-[]", parts("type:multi;b" + other + "=x\n\n"));
            Check.due("15: behind the value of a parameter" + of, "m-", parts("type:multi;b=x" + other + "\n\n--x"));
            Check.due("21: no blank" + of, other == '!' ? "a!b" : "a#b", Check.subject("a" + other + "b"));
            Check.due("21: in a coded word" + of, other == '!' ? "a!b" : "a#b", Check.subject("=?q?a" + other + "b?="));
            Check.due("21: between coded words" + of, other == '!' ? "a!b" : "a#b",
                    Check.subject("=?q?a?=" + other + "=?q?b?="));
        }
    }

    private static void blanksOfBodies() {
        String head = "type:multi;b=x\n\n";
        for (char blank : new char[] {' ', '\t'}) {
            String of = " with the blank " + (int) blank;
            Check.due("15: behind a line" + of, "m- t0[]", parts(head + "--x" + blank + "\n"));
            Check.due("15: behind the last line" + of, "m- t0[a]", parts(head + "--x\n\na\n--x--" + blank + "\nb"));
            Check.due("18: '=' and a byte 10" + of, "t-[ab]", parts("coding:q\n\na=" + blank + "\nb"));
            Check.due("24: ahead of a byte 10" + of, seal("\na\nb"), seal("\na" + blank + "\nb"));
            Check.due("24: ahead of the end" + of, seal("\na"), seal("\na" + blank));
            Check.due("24: in a value" + of, seal("id:12\n\n"), seal("id:1" + blank + "2\n\n"));
        }
        for (char other : noBlanks()) {
            String of = " with the sign " + (int) other;
            Check.due("15: behind a line" + of, "m-", parts(head + "--x" + other + "\n"));
            Check.due("15: behind the last line" + of, "m- t0[a\n--x--" + other + "]",
                    parts(head + "--x\n\na\n--x--" + other));
            Check.due("18: '=' and a byte 10" + of, "t-[a=" + other + "\nb]", parts("coding:q\n\na=" + other + "\nb"));
            Check.due("24: ahead of a byte 10" + of, false, seal("\na\nb") == seal("\na" + other + "\nb"));
            Check.due("24: ahead of the end" + of, false, seal("\na") == seal("\na" + other));
            Check.due("24: in a value" + of, false, seal("id:12\n\n") == seal("id:1" + other + "2\n\n"));
        }
    }

    private static int seal(String data) {
        Check check = new Check();
        return check.post.seal(check.mail(data));
    }

    private static void shownSigns() {
        for (char sign = 0; sign < 256; sign++) {
            if (sign != '\n' && sign != '(') {
                boolean isBlank = sign == ' ' || sign == '\t';
                boolean isShown = sign > 32 && sign < 127;
                String due = isShown ? "a" + sign + "b" : isBlank ? "a b" : "a#b";
                Check.due("21: the byte " + (int) sign, due, Check.subject("a" + sign + "b"));
            }
            String coded = String.format("=?q?=%02x?=", (int) sign);
            String due = sign >= 32 && sign <= 126 ? String.valueOf(sign) : "#";
            Check.due("21: the coded byte " + (int) sign, due, Check.subject(coded));
        }
    }

    private static void hexDigits() {
        String digits = "0123456789abcdefABCDEF";
        for (char sign = 33; sign < 256; sign++) {
            int value = Character.digit(sign, 16);
            boolean isDigit = digits.indexOf(sign) >= 0;
            String first = "=" + sign + "1";
            String second = "=4" + sign;
            String due = isDigit ? String.valueOf((char) (16 * value + 1)) : first;
            Check.due("18: first " + (int) sign, "t-[" + due + "]", parts("coding:q\n\n" + first));
            due = isDigit ? String.valueOf((char) (64 + value)) : second;
            Check.due("18: second " + (int) sign, "t-[" + due + "]", parts("coding:q\n\n" + second));
            if (!isDigit && sign < 127 && "?(_".indexOf(sign) < 0) {
                Check.due("21: first " + (int) sign, first, Check.subject("=?q?" + first + "?="));
                Check.due("21: second " + (int) sign, second, Check.subject("=?q?" + second + "?="));
            }
        }
        for (char digit : digits.toCharArray()) {
            Check.due("21: first " + digit, shown(16 * Character.digit(digit, 16) + 1), Check.subject("=?q?=" + digit + "1?="));
            Check.due("21: second " + digit, shown(64 + Character.digit(digit, 16)), Check.subject("=?q?=4" + digit + "?="));
        }
    }

    private static String shown(int sign) {
        return sign < 32 || sign > 126 ? "#" : String.valueOf((char) sign);
    }

    private static void sixBitSigns() {
        String signs = "ABCDEFGHIJKLMNOPQRSTUVWXYZabcdefghijklmnopqrstuvwxyz0123456789+/";
        for (char sign = 0; sign < 256; sign++) {
            int value = signs.indexOf(sign);
            String due = sign == '=' ? "" : value < 0 ? "\u0004" : new String(new char[] {(char) (4 * value), 16});
            Check.due("18: six bits of " + (int) sign, "t-[" + due + "]", parts("coding:b\n\n" + sign + "BA"));
        }
    }

    private static String to(String value) {
        Check check = new Check();
        check.mail("to:" + value + "\n\n");
        StringBuilder found = new StringBuilder();
        for (int index = 1; index < 5; index++) {
            int asked = index;
            try {
                found.append(check.post.address(0, asked)).append(' ');
            } catch (java.util.NoSuchElementException none) {
                return found.toString();
            }
        }
        return found.toString();
    }

    private static void addressSigns() {
        for (char sign = 33; sign < 256; sign++) {
            if (sign != '(') {
                boolean isLetter = sign >= 'a' && sign <= 'z';
                boolean isDigit = sign >= '0' && sign <= '9';
                Check.due("22: the letter " + (int) sign, isLetter ? 10 * (sign - 'a') + 5 + " " : "", to(sign + "5"));
                Check.due("22: the digit " + (int) sign, isDigit ? 20 + sign - '0' + " " : "", to("c" + sign));
            }
        }
    }

    private static void neighbours() {
        for (char sign = 33; sign < 256; sign++) {
            boolean isNone = sign >= 'a' && sign <= 'z' || sign >= 'A' && sign <= 'Z' || sign >= '0' && sign <= '9';
            if (sign != '(') {
                Check.due("22: ahead of it " + (int) sign, isNone ? "" : "25 ", to(sign + "c5"));
                Check.due("22: behind it " + (int) sign, isNone ? "" : "25 ", to("c5" + sign));
            }
        }
        Check.due("22: at both ends", "25 ", to("c5"));
        Check.due("22: a blank ahead and behind", "25 36 ", to("c5 d6"));
    }

    private static int id(String field) {
        Check check = new Check();
        check.mail(field + "\n\n");
        try {
            return check.post.idOf(0);
        } catch (java.util.NoSuchElementException none) {
            return -1;
        }
    }

    private static void digits() {
        for (char sign = 33; sign < 256; sign++) {
            boolean isDigit = sign >= '0' && sign <= '9';
            if (sign != '(') {
                Check.due("23: first " + (int) sign, isDigit ? sign - '0' : -1, id("id:" + sign));
                Check.due("23: second " + (int) sign, isDigit ? 10 + sign - '0' : 1, id("id:1" + sign));
                Check check = new Check();
                check.mail("id:1\n\n");
                check.mail("id:3\nrefs:" + (isDigit ? "2" : "") + sign + "1\n\n");
                boolean isOne = !isDigit;
                Check.due("44: ahead of a ref " + (int) sign, isOne ? 1 : 3, check.post.thread(1));
            }
        }
    }

    private static void smallLetters() {
        for (char sign = 33; sign < 127; sign++) {
            if (sign != '(' && sign != ')') {
                char other = sign >= 'A' && sign <= 'Z' ? (char) (sign + 32) : sign;
                Check check = new Check();
                check.mail("id:1\nsubject:" + other + "\n\n");
                check.mail("id:2\nsubject:re:" + sign + "\n\n");
                Check.due("43: the base of " + sign, 1, check.post.thread(1));
                char beside = (char) (sign ^ 32);
                boolean isLetter = Character.isLetter(sign);
                if (!isLetter && beside > 32 && beside < 127) {
                    check.mail("id:3\nsubject:fwd:x" + beside + "\n\n");
                    check.mail("id:4\nsubject:x" + sign + "\n\n");
                    Check.due("43: no base of " + beside, 4, check.post.thread(3));
                }
            }
        }
        Check names = new Check();
        names.mail("FROM:b2\nTO:a1\nSUBJECT:x\nID:5\nREFS:7\nLIST:z\nTYPE:wrap\n\nCODING:q\n\n=41");
        Check.due("22: a name in capitals", 12, names.post.address(0, 0));
        Check.due("16: types too", "A", names.text(0, 1));
    }
}

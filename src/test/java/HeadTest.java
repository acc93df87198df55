/** The promises 20 to 24: subjects, addresses, ids and seals. */
public final class HeadTest {
    public static void main(String[] args) {
        subjects();
        codedWords();
        longSubjects();
        subjectCalls();
        addresses();
        neighbours();
        ids();
        seals();
        Check.end("HeadTest");
    }

    private static void subject(String what, String due, String value) {
        Check.due(what, due, Check.subject(value));
    }

    private static void subjects() {
        Check check = new Check();
        Check.due("20: none", 0, check.post.subject(check.mail("to:a1\n\n")));
        Check.due("20: an empty one", 0, check.post.subject(check.mail("subject: \t\n\n")));
        subject("21: plain", "Hello: World", "Hello: World");
        subject("21: blanks", "a b c", "  a \t b\tc \t");
        subject("21: folded", "a b", "a\n\t b");
        subject("21: folded without more blanks", "a b", "a\n b");
        subject("21: comments", "ab c", "a(x)b (y) c (");
        subject("21: a comment in a comment", "ad", "a(b(c)x)d");
        subject("21: a comment between blanks", "a b", "a (x) b");
        subject("21: a ')' alone", "a)b)", "a)b)");
        subject("21: a ')' behind a comment", "a)", "(x)a)");
        subject("21: not closed", "a", "a (b) (c d");
        subject("21: not closed within", "a", "a (b (c) d");
        subject("21: other bytes", "a###~ #", "a\0\u007f\u0080~ \u00ff");
        subject("21: a comment at the beginning", "a", "(x) a");
    }

    private static void codedWords() {
        subject("21: a coded word", "a bc", "=?q?a_b=63?=");
        subject("21: two, and a blank between", "ab", "=?q?a?= =?q?b?=");
        subject("21: blanks between", "ab", "=?q?a?= \n\t =?q?b?=");
        subject("21: a comment between", "ab", "=?q?a?= (x) =?q?b?=");
        subject("21: none between", "ab", "=?q?a?==?q?b?=");
        subject("21: three", "abc", "=?q?a?= =?q?b?= =?q?c?=");
        subject("21: signs between", "a x b", "=?q?a?= x =?q?b?=");
        subject("21: blanks of the words stay", "a  b", "=?q?a_?= =?q?_b?=");
        subject("21: signs around", "xay", "x=?q?a?=y");
        subject("21: blanks around", "x a y", "x =?q?a?= y");
        subject("21: small digits", "~~", "=?q?=7e=7E?=");
        subject("21: no digits", "=7g=g7=7", "=?q?=7g=g7=7?=");
        subject("21: digits must be within", "=4", "=?q?=4?=");
        subject("21: digits not behind it", "=41", "=?q?=?=41");
        subject("21: bytes", "#####", "=?q?=00=1F=7f=80=FF?=");
        subject("21: '=5F' is no blank", "_", "=?q?=5f?=");
        subject("21: '=3D' is not turned again", "=41", "=?q?=3D41?=");
        subject("21: a comment within is left out", "ab", "=?q?a(x)b?=");
        subject("21: coded ones stay", "(x)", "=?q?=28x=29?=");
        subject("21: empty", "", "=?q??=");
        subject("21: a blank within", "=?q?a b?=", "=?q?a b?=");
        subject("21: a '?' within", "=?q?a?b?=", "=?q?a?b?=");
        subject("21: not closed", "=?q?a", "=?q?a");
        subject("21: closed at half", "=?q?a?", "=?q?a?");
        subject("21: a capital", "=?Q?a?=", "=?Q?a?=");
        subject("21: behind half a word", "=?q?x", "=?q?=?q?x?=");
        subject("21: a coded word is not read again", "=?q?a?=", "=?q?=3D=3Fq=3Fa=3F=3D?=");
    }

    private static void longSubjects() {
        String sixty = "123456789.".repeat(6);
        subject("20: sixty signs", sixty, sixty);
        subject("20: sixty-one signs", sixty, sixty + "x");
        subject("20: two hundred signs", sixty, sixty + "x".repeat(140));
        subject("20: coded signs count as they are", sixty.substring(1) + "x", "=?q?" + sixty.substring(1) + "=78=79?=");
    }

    private static void subjectCalls() {
        Check check = new Check();
        check.mail("subject:ab\n\n");
        Check.due("20: length", 2, check.post.subject(0));
        Check.due("21: the last sign", 'b', check.post.subjectAt(0, 1));
        Check.thrown("21: behind the end", Check.NONE_SUCH, () -> check.post.subjectAt(0, 2));
        Check.thrown("21: below 0", Check.NONE_SUCH, () -> check.post.subjectAt(0, -1));
        for (int message : new int[] {-1, 1, Integer.MAX_VALUE}) {
            Check.thrown("20: no message", Check.INDEX, () -> check.post.subject(message));
            Check.thrown("21: no message", Check.INDEX, () -> check.post.subjectAt(message, 9));
            Check.thrown("22: no message", Check.INDEX, () -> check.post.address(message, 9));
            Check.thrown("23: no message", Check.INDEX, () -> check.post.idOf(message));
            Check.thrown("24: no message", Check.INDEX, () -> check.post.seal(message));
        }
    }

    private static String found(String head) {
        Check check = new Check();
        check.mail(head + "\n\n");
        StringBuilder found = new StringBuilder();
        for (int index = 0; index < 5; index++) {
            int asked = index;
            try {
                found.append(index == 0 ? "" : " ").append(check.post.address(0, asked));
            } catch (java.util.NoSuchElementException none) {
                found.append('-');
            }
        }
        Check.due("25: the addresses", true, check.post.isSame(0));
        return found.toString();
    }

    private static void addresses() {
        Check.due("22: from and to", "1 12 259 - -", found("from:a1\nto:b2 z9"));
        Check.due("22: none", "- - - - -", found("x:a1"));
        Check.due("22: to alone", "- 0 - - -", found("to:a0"));
        Check.due("22: the lowest and the greatest ones", "0 259 250 9 0", found("from:a0\nto:z9 z0 a9 a0"));
        Check.due("22: a name with another first letter", "- - - - -", found("prom:a1\nso:b2"));
        Check.due("22: a longer and a shorter name", "- - - - -", found("froms:a1\nt:b2"));
        Check.due("22: the first one of from", "12 - - - -", found("from:x <b2>, a1"));
        Check.due("22: at most 4", "- 1 2 3 4", found("to:a1,a2,a3,a4,a5"));
        Check.due("22: those that were there are left out", "- 1 2 3 4", found("to:a1,a2,a1,a1,a2,a3,a4"));
        Check.due("22: the address of from too", "1 1 - - -", found("from:a1\nto:a1"));
        Check.due("22: not in comments", "- 2 - - -", found("to:(a1)a2(a3"));
        Check.due("22: of the first field", "3 1 - - -", found("to:a1\nTO:a2\nfrom:a3\nfrom:a4"));
        Check.due("22: folded", "- 1 2 - -", found("to:a1\n a2"));
        Check check = new Check();
        check.mail("from:b1\nto:a1\n\n");
        Check.thrown("22: below 0", Check.NONE_SUCH, () -> check.post.address(0, -1));
        Check.thrown("22: no second one", Check.NONE_SUCH, () -> check.post.address(0, 2));
        Check.thrown("22: above 4", Check.NONE_SUCH, () -> check.post.address(0, 5));
        check.mail("to:a1,a2,a3,a4\n\n");
        Check.thrown("22: above 4 of 4", Check.NONE_SUCH, () -> check.post.address(1, 5));
        Check.thrown("22: no from", Check.NONE_SUCH, () -> check.post.address(1, 0));
    }

    private static void neighbours() {
        Check.due("22: a letter ahead", "- - - - -", found("to:ba1"));
        Check.due("22: a capital ahead", "- - - - -", found("to:Ba1"));
        Check.due("22: a digit ahead", "- - - - -", found("to:1a1"));
        Check.due("22: a letter behind", "- - - - -", found("to:a1b"));
        Check.due("22: a capital behind", "- - - - -", found("to:a1B"));
        Check.due("22: a digit behind", "- - - - -", found("to:a12"));
        Check.due("22: other signs around", "- 1 2 3 -", found("to:_a1-a2\u00e9a3\u00e9"));
        Check.due("22: a capital letter", "- - - - -", found("to:A1"));
        Check.due("22: one behind the other", "- - - - -", found("to:a1b2"));
        Check.due("22: joined by a comment that is left out", "- - - - -", found("to:a1(x)2"));
        Check.due("22: made by a comment that is left out", "- 1 - - -", found("to:a(x)1"));
    }

    private static int id(String value) {
        Check check = new Check();
        int message = check.mail("id:" + value + "\n\n");
        try {
            return check.post.idOf(message);
        } catch (java.util.NoSuchElementException none) {
            return -1;
        }
    }

    private static void ids() {
        Check.due("23: a number", 17, id(" 17 "));
        Check.due("23: 0", 0, id("0"));
        Check.due("23: zeros ahead", 7, id("007"));
        Check.due("23: six digits", 999999, id("999999"));
        Check.due("23: seven digits", 123456, id("1234567"));
        Check.due("23: signs behind", 12, id("12x3"));
        Check.due("23: signs ahead", -1, id("x12"));
        Check.due("23: below 0", -1, id("-1"));
        Check.due("23: empty", -1, id(""));
        Check.due("23: a comment ahead", 5, id("(4)5"));
        Check check = new Check();
        check.mail("to:a1\n\nid:5");
        Check.thrown("23: no field", Check.NONE_SUCH, () -> check.post.idOf(0));
    }

    private static int sealed(String canonical) {
        int seal = 17;
        for (char sign : canonical.toCharArray()) {
            seal = 31 * seal + sign;
        }
        return seal;
    }

    private static void seal(String what, String canonical, String data) {
        Check check = new Check();
        Check.due("24: " + what, sealed(canonical), check.post.seal(check.mail(data)));
    }

    private static void seals() {
        seal("nothing", "", "\n");
        seal("the fields in their order", "from:a1\nto:b2\nsubject:x\nid:3\n", "id:3\nsubject:x\nto:b2\nfrom:a1\n\n");
        seal("no other fields", "id:3\n", "list:x\nid:3\nrefs:4\ntype:text\n\n");
        seal("an empty field", "subject:\n", "subject:\n\n");
        seal("a small name", "subject:X\n", "SubJect : X\n\n");
        seal("without blanks", "to:a1,b2\n", "to: a1,\t b2 \n\n");
        seal("without comments", "subject:ab\n", "subject:a (x) b\n\n");
        seal("ahead of coded words", "subject:=?q?a_b?==?q?c?=\n", "subject:=?q?a_b?= =?q?c?=\n\n");
        seal("all signs", "subject:" + "\u00e9".repeat(99) + "\n", "subject:" + "\u00e9".repeat(99) + "\n\n");
        seal("all of the value", "to:x,a1\nid:12345678y\n", "to:x,a1\nid:12345678y\n\n");
        seal("the first field", "id:1\n", "id:1\nid:2\n\n");
        seal("the body", "x\ny\u00ff\0", "\nx\ny\u00ff\0");
        seal("blanks ahead of a byte 10", "x\n y\n\n\tz", "\nx \t\n y\n \n\tz");
        seal("blanks at the end", "x", "\nx \t ");
        seal("bytes 10 at the end", "x", "\nx\n\n\n");
        seal("blanks and bytes 10 at the end", "x", "\nx \n\t\n \n");
        seal("blanks within", "a  b", "\na  b");
        seal("bytes 10 ahead", "\n\na", "\n\n\na");
        seal("blanks ahead", " a", "\n a");
        seal("a body of blanks", "", "\n  \n \t\n");
        seal("as it stands", "id:1\n--ab\n\n=41\n--ab--", "id:1\ntype:multi;b=ab\n\n--ab\n\n=41\n--ab--");
        seal("going round", "zzzzzzzzzzzzzzzzzzzz", "\nzzzzzzzzzzzzzzzzzzzz");
    }
}

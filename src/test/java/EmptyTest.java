/** What is empty, what lacks, and what stands at an end: of messages, heads, values, parts, codings and threads. */
public final class EmptyTest {
    public static void main(String[] args) {
        emptyMessages();
        emptyHeads();
        emptyValues();
        comments();
        codedWords();
        bounds();
        boundaryLines();
        emptyParts();
        codings();
        seals();
        emptyPatterns();
        emptyScripts();
        emptyBoxes();
        emptySubjects();
        noRefs();
        Check.end("EmptyTest");
    }

    private static void emptyMessages() {
        for (String data : new String[] {"", "\n", "x", "x\n", " ", ":", "\n\n"}) {
            Check check = new Check().people("a1");
            String of = " of " + data.length() + " bytes: " + data.replace("\n", "|");
            check.mail(data);
            Check.due("15: parts" + of, 1, check.post.parts(0));
            Check.due("16: type" + of, 't', check.post.typeOf(0, 0));
            Check.due("18: bytes" + of, data.length() == 2 && data.charAt(0) == '\n' ? 1 : 0, check.post.bytes(0, 0));
            Check.due("20: subject" + of, 0, check.post.subject(0));
            Check.thrown("22: from" + of, Check.NONE_SUCH, () -> check.post.address(0, 0));
            Check.thrown("22: to" + of, Check.NONE_SUCH, () -> check.post.address(0, 1));
            Check.thrown("23: id" + of, Check.NONE_SUCH, () -> check.post.idOf(0));
            Check.due("24: seal" + of, 17, check.post.seal(0));
            Check.due("25: isSame" + of, true, check.post.isSame(0));
            Check.due("46: delivered to no one" + of, 0, check.post.counted('d'));
            Check.due("45: in no thread" + of, 0, check.post.threads());
        }
    }

    private static void shape(String what, String due, String data) {
        Check.due(what, due, Check.shape(data));
    }

    private static void emptyHeads() {
        shape("18: a head without an end", "t-[]", "a:b");
        shape("18: a head that ends with the tape", "t-[]", "a:b\n");
        shape("18: an empty line at the end of the tape", "t-[]", "a:b\n\n");
        shape("18: one byte behind it", "t-[x]", "a:b\n\nx");
        shape("18: an empty head", "t-[type:wrap\n\nx]", "\ntype:wrap\n\nx");
        shape("16: the last line of the tape", "w- t0[]", "a:b\ntype:wrap");
        shape("16: the first line of the tape", "w- t0[]", "type:wrap\na:b");
        shape("16: the last line goes on at the end of the tape", "w- t0[]", "type:\n wrap");
        shape("16: a blank at the end of the tape", "w- t0[]", "type:wrap\n ");
        shape("16: two lines that go on", "w- t0[]", "type:\n \n\twrap");
        shape("16: the first line begins with a blank and goes on", "w- t0[]", " type\n :wrap");
        shape("16: a first line of blanks goes on", "w- t0[]", " \n type:wrap");
        shape("16: a first line of blanks alone", "w- t0[]", " \ntype:wrap");
        shape("16: a part's first line begins with a blank", "m- w0 t1[]", "type:multi;b=x\n\n--x\n type:wrap");
        shape("16: a field without a name", "t-[]", ":type:wrap");
        shape("16: blanks for a name", "t-[]", " \t:wrap");
        shape("16: a name that goes on", "t-[]", "ty\n pe:wrap");
        shape("16: only the first ':'", "t-[]", "type::wrap");
        shape("16: without ':' at the end of the head", "w- t0[]", "type:wrap\ntype");
    }

    private static void emptyValues() {
        Check check = new Check().people("a1");
        check.mail("from:\nto:\nsubject:\nid:\nrefs:\nlist:\ntype:\ncoding:\n\nx");
        Check.due("16: an empty type", 't', check.post.typeOf(0, 0));
        Check.due("18: an empty coding", 1, check.post.bytes(0, 0));
        Check.due("20: an empty subject", 0, check.post.subject(0));
        Check.thrown("22: an empty from", Check.NONE_SUCH, () -> check.post.address(0, 0));
        Check.thrown("22: an empty to", Check.NONE_SUCH, () -> check.post.address(0, 1));
        Check.thrown("23: an empty id", Check.NONE_SUCH, () -> check.post.idOf(0));
        Check.due("24: empty fields are there", sealed("from:\nto:\nsubject:\nid:\nx"), check.post.seal(0));
        Check.due("25: isSame", true, check.post.isSame(0));
        Check first = new Check().people("a1");
        first.mail("to:\nto:a1\nfrom:\nfrom:b2\nid:\nid:5\nsubject:\nsubject:x\n\n");
        Check.due("22: an empty first field counts", 0, first.post.counted('d'));
        Check.thrown("22: for from", Check.NONE_SUCH, () -> first.post.address(0, 0));
        Check.thrown("23: for id", Check.NONE_SUCH, () -> first.post.idOf(0));
        Check.due("20: for the subject", 0, first.post.subject(0));
    }

    private static int sealed(String canonical) {
        int seal = 17;
        for (char sign : canonical.toCharArray()) {
            seal = 31 * seal + sign;
        }
        return seal;
    }

    private static void comments() {
        String[][] values = {{"", "()"}, {"", "("}, {")", ")"}, {")", "())"}, {"", "((((("}, {"", "(((())))"}, {"x", "x("},
            {"x", "()x()"}, {"x", "( ) x ( )"}, {"x y", "x ( ) y"}, {"xy", "x( )y"}, {"x y", "x( ) y"}, {"", "(x) (y)"},
            {"x)", "x)(y"}, {")x)", ")x(y))"}, {"x)y", "x)y"}, {"", "(x\n y"}, {"", "(x\n) y"}, {"x y", "x(\n )\n y"},
            {"", "(=?q?a?=)"}, {"=?q?a", "=?q?a(?=)"}, {"a", "=?q?(?=)a?="}, {"", " \t( \t) \t"}};
        for (String[] value : values) {
            Check.due("21: " + value[1], value[0], Check.subject(value[1]));
        }
        Check field = new Check();
        field.mail("(x) subject:y\nsubject(x):z\n\n");
        Check.due("20: names have no comments", 0, field.post.subject(0));
    }

    private static void codedWords() {
        String[][] values = {{"", "=?q??="}, {"ab", "a=?q??=b"}, {"", "=?q??= =?q??="}, {"=?q?", "=?q?"}, {"=?q?=", "=?q?="},
            {"=", "=?q?=?="}, {"==", "=?q?==?="}, {"=?q", "=?q"}, {"=?q? ?=", "=?q? ?="}, {" ", "=?q?_?="},
            {"=4", "=?q?=4?="}, {"A", "=?q?=41?="}, {"A1", "=?q?=411?="}, {"a", "=?q??= =?q?a?= =?q??="}, {"a ?=", "=?q?a?= ?="},
            {"a =?q?b", "=?q?a?= =?q?b"}, {"=?q?a b", "=?q?a =?q?b?="}, {"ab", "=?q?a?= =?q?b?="}, {"a=?=b", "=?q?a?==?=b"},
            {"a?=", "=?q?a?=?="}, {"=a", "==?q?a?="}, {"=?a", "=?=?q?a?="}};
        for (String[] value : values) {
            Check.due("21: " + value[1], value[0], Check.subject(value[1]));
        }
    }

    private static void bounds() {
        String[] texts = {"multi", "multi;", "multi;b", "multi;b=", "multi; b = ", "multi;b=()", "multi;=x", "multi;b*0=",
            "multi;b*0=;b*1=", "multi;b*1=x", "multi;b*=x", "multi;b*00=x", "multi;b* 0=x", "multi;b*0 0=x", "mult;b=x",
            "mul ti;b=x", ";multi;b=x", "b=x;multi", "multi b=x", "multi;b=;b=x", "multi;b=;b*0=x", "wra", "wra p", "", ";"};
        for (String type : texts) {
            shape("16: text of " + type, "t-[--x\n\ny]", "type:" + type + "\n\n--x\n\ny");
        }
        String[] multis = {"multi;b=x", "multi;b=x;", "multi;;b=x", "multi;=;b=x", "multi;a=;b=x;c=", "multi;b*0=x",
            "multi;b*0=;b*1=;b*2=x", "multi;b*0=x;b*2=y", "multi;b*0=x;b*1=;b*3=y", "multi;b*1=;b*0=x", "multi;b*0=x;b*0=y",
            "multi;b*0=y;b=x", "multib=y;b=x", "multi;b=x;b*0=y", "mult()i;b=x", "multi;b(;b=y)=x", "multi:;b=x"};
        for (String type : multis) {
            shape("16: multi of " + type, "m- t0[y]", "type:" + type + "\n\n--x\n\ny");
        }
        shape("15: a value with '='", "m- t0[y]", "type:multi;b==x\n\n--=x\n\ny");
        shape("15: a value with '--'", "m- t0[y]", "type:multi;b=x--\n\n--x--\n\ny\n--x----\nz");
        shape("15: a value '-'", "m- t0[y]", "type:multi;b=-\n\n---\n\ny\n-----\nz");
        shape("15: a long one", "m- t0[y]", "type:multi;b=" + "x".repeat(900) + "\n\n--" + "x".repeat(900) + "\n\ny");
        StringBuilder pieces = new StringBuilder("multi");
        for (int piece = 104; piece >= 0; piece--) {
            pieces.append(";b*").append(piece).append('=').append(piece % 10);
        }
        String whole = "0123456789".repeat(10) + "01234";
        shape("15: a hundred and five pieces", "m- t0[y]", "type:" + pieces + "\n\n--" + whole + "\n\ny");
    }

    private static void boundaryLines() {
        String head = "type:multi;b=x\n\n";
        String[][] bodies = {{"m-", ""}, {"m-", "\n"}, {"m-", "--"}, {"m-", "-x"}, {"m-", "--x--"}, {"m-", "--x--\n--x"},
            {"m- t0[]", "--x"}, {"m- t0[]", "--x\n"}, {"m- t0[]", "--x \t"}, {"m- t0[]", "--x\n--x--"}, {"m- t0[] t0[]", "--x\n--x"},
            {"m- t0[]", "--x\n\n--x--"}, {"m- t0[]", "--x\n\n\n--x--"}, {"m- t0[\n]", "--x\n\n\n\n--x--"},
            {"m- t0[--x-]", "--x\n\n--x-\n--x--"}, {"m- t0[--x---]", "--x\n\n--x---"}, {"m- t0[---x]", "--x\n\n---x"},
            {"m- t0[x--x--]", "--x\n\nx--x--"}, {"m- t0[--x--y]", "--x\n\n--x--y"}, {"m- t0[--xx]", "--x\n\n--xx"},
            {"m- t0[--x --]", "--x\n\n--x --"}, {"m- t0[a]", "--x\n\na\n--x-- "}, {"m- t0[a\r]", "--x\n\na\r\n--x--"},
            {"m- t0[a] t0[b] t0[c]", "\n\n--x\n\na\n--x\n\nb\n--x\n\nc\n--x--\n--x\n\nd"}};
        for (String[] body : bodies) {
            shape("15: " + body[1].replace("\n", "|"), body[0], head + body[1]);
        }
    }

    private static void emptyParts() {
        shape("15: an empty wrap", "w- t0[]", "type:wrap");
        shape("15: an empty wrap behind an empty line", "w- t0[]", "type:wrap\n\n");
        shape("15: an empty multi", "m-", "type:multi;b=x");
        shape("15: an empty multi in a wrap", "w- m0", "type:wrap\n\ntype:multi;b=x");
        shape("15: an empty multi in a multi", "m- m0 t0[]", "type:multi;b=x\n\n--x\ntype:multi;b=y\n--x\n--x--");
        shape("15: an empty wrap in a multi", "m- w0 t1[] t0[]", "type:multi;b=x\n\n--x\ntype:wrap\n--x\n--x--");
        shape("15: the same line for both", "m- m0 t0[]", "type:multi;b=x\n\n--x\ntype:multi;b=x\n\n--x\n--x--");
        Check check = new Check();
        check.mail("type:multi;b=x\n\n--x\n--x\n\n--x--");
        for (int part = 1; part < 3; part++) {
            int asked = part;
            Check.due("18: of the empty part " + part, 0, check.post.bytes(0, part));
            Check.thrown("19: of the empty part " + part, Check.NONE_SUCH, () -> check.post.byteAt(0, asked, 0));
        }
    }

    private static void codings() {
        String[][] bodies = {{"", "q", ""}, {"=", "q", "="}, {"=4", "q", "=4"}, {"A", "q", "=41"}, {"==", "q", "=="}, {"", "q", "=\n"},
            {"", "q", "=\n=\n"}, {"= ", "q", "= "}, {"", "q", "= \n"}, {"=\r\n", "q", "=\r\n"}, {"\n", "q", "=\n\n"}, {"=A", "q", "==41"},
            {"a\n", "q", "a\n"}, {"A", "q", "=\n=41"}, {"=4\n1", "q", "=4\n1"}, {"=41", "q", "=3d41"}, {"", "b", ""}, {"", "b", "="},
            {"", "b", "A"}, {"A", "b", "QQ"}, {"A", "b", "QR"}, {"AB", "b", "QUI"}, {"ABC", "b", "QUJD"}, {"ABC", "b", "QUJDQ"},
            {"ABCA", "b", "QUJDQQ"}, {"A", "b", "Q\nQ\n=\nQQQQ"}, {"ABC", "b", "Q U-J_D"}, {"ABC", "b", "QUJD=QUJD"},
            {"ABCABC", "b", "QUJDQUJD"}, {"", "b", "=QUJD"}, {"ABC", "b", "QUJDQ=UJD"}, {"\0\0\0", "b", "AAAA"},
            {"\u00ff\u00ff\u00ff", "b", "////"}, {"\u0083\u0010Q", "b", "gxBR"}, {"=41", "", "=41"}, {"=41", "B", "=41"},
            {"QUJD", "bb", "QUJD"}, {"=41", "q;", "=41"}, {"=41", "q q", "=41"}, {"A", "(x)q(y)", "=41"}, {"ABC", "\tb ", "QUJD"}};
        for (String[] body : bodies) {
            shape("18: " + body[1] + " of " + body[2].replace("\n", "|"), "t-[" + body[0] + "]",
                    "coding:" + body[1] + "\n\n" + body[2]);
        }
    }

    private static void seals() {
        String[][] bodies = {{"", ""}, {"", "\n"}, {"", " "}, {"", " \n \n"}, {"", "\n \t"}, {"a", "a \n\n \n"}, {" a", " a"},
            {"\na", "\na"}, {"\na", " \na"}, {"a\n\nb", "a\n \nb"}, {"a b", "a b"}, {"a\r", "a\r\n"}, {"a\n b", "a \n b "}};
        for (String[] body : bodies) {
            Check check = new Check();
            check.mail("\n" + body[1]);
            check.mail("id:1\n\n" + body[1]);
            Check.due("24: " + body[1].replace("\n", "|"), sealed(body[0]), check.post.seal(0));
            Check.due("24: with a head, " + body[1].replace("\n", "|"), sealed("id:1\n" + body[0]), check.post.seal(1));
        }
        Check check = new Check();
        check.mail("ID : ( 7 ) 1\t2 \n 3\nid:9\nx\nTo\t:\nsubject:=?q?_?=\n\n");
        Check.due("24: values", sealed("to:\nsubject:=?q?_?=\nid:123\n"), check.post.seal(0));
        check.mail("id:1");
        Check.due("24: a head alone", sealed("id:1\n"), check.post.seal(1));
        check.mail("from:1\nlist:2\nrefs:3\ntype:4\ncoding:5\nx:6\n\n");
        Check.due("24: no others", sealed("from:1\n"), check.post.seal(2));
    }

    private static String kept(String head, String... rules) {
        Check check = new Check().people("a1").scripts(2);
        for (String rule : rules) {
            check.rule(0, rule);
        }
        check.post.setScript(0, 0);
        check.mail(head + "to:a1\n\n");
        StringBuilder boxes = new StringBuilder();
        for (int box = 0; box < 4; box++) {
            boxes.append(check.post.items(0, box));
        }
        return boxes.toString();
    }

    private static void emptyPatterns() {
        for (String test : new String[] {"f", "s", "i"}) {
            Check.due("12: nothing is empty, " + test, "0100", kept("", test + " k 1"));
            Check.due("12: nothing is any row, " + test, "0100", kept("", test + " k 1 *"));
            Check.due("12: nothing is '$', " + test, "0100", kept("", test + " k 1 $"));
            Check.due("12: nothing is no sign, " + test, "1000", kept("", test + " k 1 ?"));
            String head = "from:b2\nsubject:x\nlist:y\n";
            Check.due("12: something is not empty, " + test, "1000", kept(head, test + " k 1"));
            Check.due("12: something is any row, " + test, "0100", kept(head, test + " k 1 *"));
        }
        Check.due("12: to is never nothing", "1000", kept("", "t k 1"));
        Check.due("12: an empty pattern of 'z'", "0100", kept("", "z k 1"));
        Check.due("12: an empty pattern of 'a'", "0100", kept("", "a k 1"));
        Check.due("12: '*' for nothing leaves nothing", "0100", kept("subject:x\n", "s m 0 x*", "i k 1 $"));
        Check.due("12: a turned one that never matches", "0100", kept("", "!f k 1 ?"));
    }

    private static void emptyScripts() {
        Check.due("12: no rules", "1000", kept(""));
        Check.due("12: a script without rules is done", "0100", kept("", "a n 1", "a k 1"));
        Check.due("12: nothing is done", "1000", kept("", "a n 1"));
        Check.due("12: no flags are added", "1000", kept("", "a m 0"));
        Check check = new Check().people("a1").scripts(1).rule(0, "a k 1");
        check.post.setScript(0, 0);
        check.post.dropRules(0);
        check.mail("to:a1\n\n");
        Check.due("13: no rules are left", "1:0", check.box(0, 0));
    }

    private static void emptyBoxes() {
        Check check = new Check().people("a1");
        PostSieve post = check.post;
        post.open(0, 0, 3);
        Check.due("29: no mark", 0, post.mark(0, 3));
        for (int mark : new int[] {Integer.MIN_VALUE, -1, 0, Integer.MAX_VALUE}) {
            Check.due("30: none since " + mark, 0, post.changedSince(0, 3, mark));
            Check.due("31: none since " + mark, 0, post.goneSince(0, 3, mark));
        }
        Check.due("35: sees none", 0, post.sees(0));
        Check.due("41: told of none", 0, post.told(0));
        for (char by : "fsgtz".toCharArray()) {
            Check.due("42: finds none by " + by, 0, post.find(0, by, -1));
        }
        Check.due("34: saw none", 0, post.close(0));
        check.mail("to:a1\n\n");
        for (int mark = -2; mark <= 2; mark++) {
            Check.due("30: one since " + mark, mark < 1 ? 1 : 0, post.changedSince(0, 0, mark));
        }
        post.open(0, 0, 0);
        post.remove(1, 0);
        for (int mark = -1; mark <= 3; mark++) {
            Check.due("31: gone since " + mark, mark < 2 ? 1 : 0, post.goneSince(0, 0, mark));
            Check.due("30: none since " + mark, 0, post.changedSince(0, 0, mark));
        }
        Check.due("30: the least mark", 0, post.changedSince(0, 0, Integer.MIN_VALUE));
        Check.due("31: the least mark", 1, post.goneSince(0, 0, Integer.MIN_VALUE));
        Check.due("31: the greatest mark", 0, post.goneSince(0, 0, Integer.MAX_VALUE));
        Check.thrown("47: none is left", Check.ARITHMETIC, () -> post.readShare(0));
        Check.due("28: no room is taken", 0, post.room(0));
        Check.due("41: one left", 1, post.told(1));
        Check.due("35: an empty box again", 0, post.sees(1));
    }

    private static int threadOf(String first, String second) {
        Check check = new Check();
        check.mail("id:1\n" + first + "\n\n");
        check.mail("id:2\n" + second + "\n\n");
        return check.post.thread(1);
    }

    private static void emptySubjects() {
        Check.due("43: no subject, and an answer to none", 1, threadOf("", "subject:re:"));
        Check.due("43: an empty subject", 1, threadOf("subject:", "subject:fwd:"));
        Check.due("43: '(fwd)' alone", 1, threadOf("subject:=?q?=28fwd=29?=", "subject:re:"));
        Check.due("43: nothing is taken off", 2, threadOf("", "subject:"));
        Check.due("43: taken off at the end alone", 2, threadOf("", "subject:=?q?=28fwd=29?="));
        Check.due("43: blanks are not something", 2, threadOf("subject:x", "subject:=?q?_x?="));
        Check.due("43: blanks around the base", 1, threadOf("subject:=?q?_x_?=", "subject:re:x"));
        Check.due("43: blanks around all", 1, threadOf("subject:x", "subject:=?q?__re:__Fwd:__x__=28fwd=29__?="));
        Check.due("43: at both ends at once", 1, threadOf("subject:x", "subject:re:x=?q?=28fwd=29?="));
        Check.due("43: 're' without ':'", 2, threadOf("subject:", "subject:re"));
        Check.due("43: 'e:' alone", 2, threadOf("subject:", "subject:e:"));
        Check.due("43: 'fwd' without ':'", 2, threadOf("subject:", "subject:fwd"));
        Check.due("43: twenty times", 1, threadOf("subject:", "subject:" + "re:".repeat(20)));
        Check.due("43: fifteen times", 1, threadOf("subject:", "subject:" + "FWD:".repeat(15)));
        Check.due("43: half of one at the sixtieth sign", 2, threadOf("subject:", "subject:" + "re:".repeat(19) + "fwd:"));
    }

    private static void noRefs() {
        Check.due("43: an empty field refs is none", 1, threadOf("subject:x\nrefs:", "subject:re:x\nrefs: (7)"));
        Check.due("43: no digits are no refs", 1, threadOf("subject:x\nrefs:a;b", "subject:re:x\nrefs:-"));
        Check.due("43: a ref, not there", 2, threadOf("subject:x", "subject:re:x\nrefs:7"));
        Check.due("43: the other one has a ref, not there", 2, threadOf("subject:x\nrefs:7", "subject:re:x"));
        Check.due("43: both have it", 1, threadOf("subject:x\nrefs:7 8", "subject:y\nrefs:7 9"));
        Check.due("43: the ref 0", 1, threadOf("subject:x\nrefs:0", "subject:y\nrefs:000000 9"));
        Check.due("43: to itself alone", 2, threadOf("subject:x", "subject:re:x\nrefs:2"));
        Check.due("43: to itself, and the same first ref", 2, threadOf("refs:7", "refs:7 2"));
    }
}

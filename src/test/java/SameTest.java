/** The promise 25: a message that is written anew and read has the same parts. */
public final class SameTest {
    public static void main(String[] args) {
        heads();
        bodies();
        boundaries();
        greatOnes();
        oneBehindTheOther();
        calls();
        Check.end("SameTest");
    }

    private static void same(String what, String data) {
        Check check = new Check();
        Check.due("25: " + what, true, check.post.isSame(check.mail(data)));
    }

    private static void heads() {
        same("nothing", "");
        same("all fields", "from:a1\nto:b2,c3\nsubject:x\nid:5\nrefs:1 2 3\nlist:y\n\nhi");
        same("comments", "from:(b2)a1\nto:(x(y)z)b2\nsubject:a(b)c) d (e\nid:(4)5\nrefs:1(2)3 4\n\nhi");
        same("folded fields", " from\n :a1\nto:\n b2\n\tc3\nsubject: a\n b\n\n");
        same("coded words", "subject:=?q?=28x=29_?= =?q?=0A=3F?= (c) =?q?y\n\n");
        same("coded brackets and blanks", "subject:=?q?_=28_?=\n\n");
        same("a long subject", "subject:" + "=?q?=28?= x".repeat(40) + "\n\n");
        same("more than are read", "to:" + "a1 b2 c3 d4 e5 f6 ".repeat(9) + "\nrefs:" + "12345678 ".repeat(9) + "\n\n");
        same("fields that come twice", "from:a1\nfrom:b2\nid:1\nid:2\n\n");
        same("all is head", "from:a1\nx\n y\nto:b2");
        same("no head, and a body like one", "\nfrom:a1\nto:b2\nsubject:x\nid:5\nrefs:3\n\n");
        same("all bytes in a field", "subject:\0\1\u000b\r\u007f\u0080\u00ff\n\n");
    }

    private static void bodies() {
        StringBuilder all = new StringBuilder();
        for (char sign = 0; sign < 256; sign++) {
            all.append(sign);
        }
        same("a raw body", "\n" + all);
        same("a coded body", "coding:q\n\n" + all + "=00=0a=0A=ff= \n=");
        same("coded '=' and byte 10", "coding:q\n\n=3D=0A=3D =0A=3D\t =0Ax=3d41=3D");
        for (String bytes : new String[] {"", "Zg==", "Zm8=", "Zm9v", "Zm9vYg", "/////w+A"}) {
            same("a body in six bits " + bytes, "coding:b\n\n" + bytes);
        }
        same("a body like a head", "\ntype:multi;b=ab\n\n--ab\n\nx");
        same("a wrap", "type:wrap\n\nfrom:a1\nsubject:x\ncoding:b\n\nZm9v");
        same("a wrap with no head", "type:wrap\n\n\nx\n");
        same("a part with no body", "type:multi;b=ab\n\n--ab\ncoding:q\n--ab\n--ab--");
        same("a part with a byte 10 at its end", "type:multi;b=ab\n\n--ab\n\nx\n\n\n--ab\n\n\n\n--ab");
    }

    private static void boundaries() {
        String inner = "type:multi;b=cd\n\n--cd\n\nx\n--w0p0\n--w0p1--\n--cd\n\n--w1p\n--cd--";
        same("boundaries of its own", "type:multi;b=ab\n\n--ab\n" + inner + "\n--ab\n\n--w2p0\n--w2p0--\n--ab--");
        same("in a text alone", "type:multi;b=ab\n\n--ab\n\nx\n--w0p0\n\ny\n--w0p0--\nz\n--ab--");
        same("ahead of the parts", "type:multi;b=ab\n\n--w0p0\n\nx\n--ab\n\ny");
        same("the same boundary within", "type:multi;b=ab\n\n--ab\ntype:multi;b=ab\n\n--ab\n\nx\n--ab--");
        same("its own boundary", "type:multi;b=w0p0\n\n--w0p0\n\nx\n--w0p0\n\ny\n--w0p0--");
        same("cut into pieces", "type:multi;b*0=a;b*1=b\n\n--ab\ntype:wrap\n\ncoding:q\n\n=41\n--ab--");
        same("no part", "type:multi;b=ab\n\nx");
    }

    private static void greatOnes() {
        same("the greatest one", "\n" + "x".repeat(1999));
        same("the greatest one in q", "coding:q\n\n" + "\n".repeat(1989));
        same("the greatest one in b", "coding:b\n\n" + "A".repeat(1989));
        same("many parts", "type:multi;b=ab\n\n" + "--ab\ncoding:q\n\n=\n" + "--ab\n\nx\n".repeat(200));
        same("the deepest one", "type:wrap\n\n".repeat(150));
        same("deep multi parts", "type:multi;b=a\n\n--a\ntype:multi;b=b\n\n--b\ntype:multi;b=c\n\n--c\n"
                + "type:multi;b=d\n\n--d\ntype:multi;b=e\n\n--e\ntype:multi;b=f\n\n--f\n"
                + "type:multi;b=g\ncoding:q\n\n--g\n=41\n--f\n\nx\n--e--\n--d\n\ny\n--a--");
        StringBuilder lines = new StringBuilder("type:multi;b=ab\n\n--ab\n");
        for (String line : new String[] {"w0p0", "w1p0", "w2p0", "w3p0", "0p0", "wp0", "w0", "w00", "w40", "w4p", "p0", "w"}) {
            lines.append("\n--").append(line).append("\n\nx\n--").append(line).append("--");
        }
        same("lines like boundaries of its own", lines + "\n--ab--");
        same("many marks", "\n" + "--w0p --w1p --w2p --w3p --w4p ".repeat(20) + "--w5p");
        same("a long value", "subject:" + "(x)a ".repeat(390) + "\n\n");
    }

    /** What one message had must not be left for the next one. */
    private static void oneBehindTheOther() {
        String[] mails = {"refs:1 2 3\nfrom:a1\nto:b2,c3\nsubject:hello\nid:5\nlist:x\n\nbody", "", "subject:x\n\n",
            "type:multi;b=x\nto:d4\n\n--x\n\na\n--x\ntype:wrap\n\ncoding:q\n\n=41", "refs:7\n\n", "subject:" + "y".repeat(99),
            "type:wrap\nfrom:b2\n\n", "coding:b\nid:9\n\nQUJD", "\nx"};
        Check check = new Check();
        for (String mail : mails) {
            check.mail(mail);
        }
        for (int turn = 1; turn < mails.length; turn++) {
            for (int at = 0; at < mails.length; at++) {
                int message = at * turn % mails.length;
                Check.due("25: the message " + message + " in the turn " + turn, true, check.post.isSame(message));
            }
        }
    }

    private static void calls() {
        Check check = new Check();
        Check.thrown("25: no message", Check.INDEX, () -> check.post.isSame(0));
        check.mail("to:a1\n\nx");
        Check.thrown("25: behind the last one", Check.INDEX, () -> check.post.isSame(1));
        Check.thrown("25: below 0", Check.INDEX, () -> check.post.isSame(-1));
        check.mail("type:wrap\n\n\ny");
        Check.due("25: the first one", true, check.post.isSame(0));
        Check.due("25: the second one", true, check.post.isSame(1));
        Check.due("25: the first one again", true, check.post.isSame(0));
        Check.due("25: nothing else is changed", "x", check.text(0, 0));
        Check.due("25: nor here", "y", check.text(1, 1));
    }
}

/** The promises 15 to 19 and 48: parts, their types, places and bytes, and how many there are. */
public final class PartsTest {
    public static void main(String[] args) {
        heads();
        types();
        bounds();
        boundaryLines();
        nested();
        depths();
        limits();
        turnsQ();
        turnsB();
        wrongCalls();
        means();
        Check.end("PartsTest");
    }

    private static void shape(String what, String due, String data) {
        Check.due(what, due, Check.shape(data));
    }

    private static String multi(String type) {
        return Check.shape("type:" + type + "\n\n--ab\n\nx");
    }

    private static void heads() {
        shape("18: the body is behind the first empty line", "t-[x\n\ny\n]", "a:b\nc:d\n\nx\n\ny\n");
        shape("18: an empty head", "t-[a:b]", "\na:b");
        shape("18: all is head", "t-[]", "a:b\nc");
        shape("18: all is head, with a byte 10", "t-[]", "a:b\n");
        shape("18: a line of blanks is not empty", "t-[z]", "a:b\n \nx\n\nz");
        shape("18: all bytes", "t-[\0\u0080\u00ff]", "\n\0\u0080\u00ff");
        shape("16: a folded field", "w- t0[x]", "type:\n wrap\n\n\nx");
        shape("16: a folded name", "w- t0[x]", "type\n\t :wrap\n\n\nx");
        shape("16: a first line that begins with a blank", "w- t0[x]", " type:wrap\n\n\nx");
        shape("16: a name in capitals with blanks", "w- t0[x]", "\tTyPe :\twrap\n\n\nx");
        shape("16: a first field counts", "t-[\nx]", "type:text\ntype:wrap\n\n\nx");
        shape("16: an empty first field counts", "t-[\nx]", "type:\ntype:wrap\n\n\nx");
        shape("16: a field within another one", "t-[\nx]", "a:b\n type:wrap\n\n\nx");
        shape("16: a line without ':' is left out", "w- t0[x]", "type\ntype:wrap\n\n\nx");
        shape("16: that goes on with one that has it", "t-[\nx]", "no\n type:wrap\n\n\nx");
        shape("16: comments are left out", "w- t0[x]", "type:(a(b)c)wr(d)ap\n\n\nx");
        shape("16: a comment that is not closed", "t-[\nx]", "type:(a(b)wrap\n\n\nx");
        shape("16: a folded comment", "w- t0[x]", "type:(a\n b)wrap\n\n\nx");
    }

    private static void types() {
        String parts = "m- t0[x]";
        Check.due("16: multi", parts, multi("multi;b=ab"));
        Check.due("16: begins with multi", parts, multi("multipart ;b=ab"));
        Check.due("16: no parameter", "t-[--ab\n\nx]", multi("multi"));
        Check.due("16: an empty parameter", "t-[--ab\n\nx]", multi("multi;b="));
        Check.due("16: capitals", "t-[--ab\n\nx]", multi("Multi;b=ab"));
        Check.due("16: it does not begin with it", "t-[--ab\n\nx]", multi("a multi;b=ab"));
        Check.due("16: wrap", "w- t0[x]", multi("wrap;b=ab"));
        Check.due("16: begins with wrap", "w- t0[x]", multi("wrapped"));
        Check.due("16: none", "t-[--ab\n\nx]", multi("text"));
    }

    private static void bounds() {
        String parts = "m- t0[x]";
        String text = "t-[--ab\n\nx]";
        Check.due("15: blanks", parts, multi("multi ; b\t=  ab ;c=d"));
        Check.due("15: another one ahead", parts, multi("multi;c=d;b=ab"));
        Check.due("15: the first of two", parts, multi("multi;b=ab;b=cd"));
        Check.due("15: a capital name", text, multi("multi;B=ab"));
        Check.due("15: a longer name", text, multi("multi;bb=ab"));
        Check.due("15: no '='", parts, multi("multi;b;b=ab"));
        Check.due("15: '=' in the value", "m-", multi("multi;b=ab=c"));
        Check.due("15: ahead of the first ';'", text, multi("multi b=ab"));
        Check.due("15: pieces", parts, multi("multi;b*0=a;b*1=b"));
        Check.due("15: pieces in their order", parts, multi("multi;b*1=b ;b*0= a"));
        Check.due("15: up to the first that lacks", parts, multi("multi;b*0=a;b*1=b;b*3=c"));
        Check.due("15: without the first", text, multi("multi;b*1=ab"));
        Check.due("15: an empty piece", parts, multi("multi;b*0=;b*1=ab"));
        Check.due("15: b counts, not the pieces", parts, multi("multi;b*0=c;b=ab"));
        Check.due("15: an empty b counts", text, multi("multi;b*0=ab;b="));
        Check.due("15: ten pieces and more", parts,
                multi("multi;b*0=a;b*1=;b*2=;b*3=;b*4=;b*5=;b*6=;b*7=;b*8=;b*9=;b*10=b"));
        Check.due("15: comments", parts, multi("multi;b=a(;b=c)b"));
    }

    private static String ab(String body) {
        return Check.shape("type:multi;b=ab\n\n" + body);
    }

    private static void boundaryLines() {
        Check.due("15: no line", "m-", ab("x"));
        Check.due("15: one part to the end", "m- t0[x\n]", ab("--ab\n\nx\n"));
        Check.due("19: the byte 10 ahead does not belong to it", "m- t0[x] t0[y\n]", ab("--ab\n\nx\n--ab\n\ny\n\n--ab--"));
        Check.due("15: empty parts", "m- t0[] t0[] t0[]", ab("--ab\n--ab\n\n--ab\n\n\n--ab--"));
        Check.due("15: a line at the end begins a part", "m- t0[]", ab("--ab"));
        Check.due("15: what is ahead is no part", "m- t0[x]", ab("ahead\n--ab\n\nx"));
        Check.due("15: what is behind is no part", "m- t0[x]", ab("--ab\n\nx\n--ab--\n--ab\n\ny"));
        Check.due("15: the last line alone", "m-", ab("--ab--\n--ab\n\ny"));
        Check.due("15: blanks at the end", "m- t0[x]", ab("--ab \t\n\nx\n--ab-- \t\ny"));
        Check.due("15: other signs at the end", "m-", ab("--abx\n\nx"));
        Check.due("15: blanks ahead", "m-", ab(" --ab\n\nx"));
        Check.due("15: not at the beginning of a line", "m-", ab("x--ab\n\nx"));
        Check.due("15: one '-'", "m- t0[x\n--ab-]", ab("--ab\n\nx\n--ab-"));
        Check.due("15: other letters", "m-", ab("--AB\n\nx"));
        shape("15: blanks within", "m- t0[x]", "type:multi;b=a  b\n\n--a b\n\nx");
    }

    private static void nested() {
        String inner = "type:multi;b=cd\n\n--cd\n\nx\n--cd\n\ny\n--cd--\nz";
        Check.due("17: parts of parts", "m- m0 t1[x] t1[y] t0[w]", ab("--ab\n" + inner + "\n--ab\n\nw\n--ab--"));
        Check.due("17: an outer line ends an inner part", "m- m0 t1[x] t0[y\n--cd]",
                ab("--ab\ntype:multi;b=cd\n\n--cd\n\nx\n--ab\n\ny\n--cd\n--ab--"));
        Check.due("17: a message in a message", "w- w0 t1[x]", Check.shape("type:wrap\n\ntype:wrap\n\n\nx"));
        Check.due("17: a message in a part", "m- w0 m1 t2[x] t0[y]",
                ab("--ab\ntype:wrap\n\ntype:multi;b=cd\n\n--cd\n\nx\n--cd--\n--ab\n\ny"));
        Check.due("17: the same boundary within", "m- m0 t0[x] t0[y]",
                ab("--ab\ntype:multi;b=ab\n\n--ab\n\nx\n--ab\n\ny\n--ab--"));
        Check.due("17: an empty body of a wrap", "w- t0[]", Check.shape("type:wrap"));
    }

    private static void depths() {
        String wraps = "type:wrap\n\n";
        Check.due("16: the depth 6", "w- w0 w1 w2 w3 t4[x]", Check.shape(wraps.repeat(5) + "\nx"));
        Check.due("16: the depth 7", "w- w0 w1 w2 w3 w4 t5[x]", Check.shape(wraps.repeat(6) + "\nx"));
        Check.due("16: deeper is text", "w- w0 w1 w2 w3 w4 t5[type:wrap\n\n\nx]", Check.shape(wraps.repeat(8) + "\nx"));
        Check.due("16: deeper with a coding", "w- w0 w1 w2 w3 w4 t5[a]",
                Check.shape(wraps.repeat(6) + "coding:q\ntype:multi;b=ab\n\n=61"));
    }

    private static void limits() {
        Check check = new Check();
        int message = check.mail("type:multi;b=ab\n\n" + "--ab\n\nx\n".repeat(30));
        Check.due("15: at most 20", 20, check.post.parts(message));
        Check.due("19: the last one", "x", check.text(message, 19));
        Check.due("25: with 20 parts", true, check.post.isSame(message));
        int deep = check.mail("type:multi;b=ab\n\n" + "--ab\ntype:wrap\n\n\ny\n".repeat(10));
        Check.due("15: at most 20, with wraps", 20, check.post.parts(deep));
        Check.due("16: the last one has no part", 'w', check.post.typeOf(deep, 19));
        Check.due("17: in the message", 0, check.post.parentOf(deep, 19));
        Check.due("17: one in a wrap", 17, check.post.parentOf(deep, 18));
        Check.due("25: with a part left out", true, check.post.isSame(deep));
    }

    private static String turned(String coding, String body) {
        return Check.shape("coding:" + coding + "\n\n" + body);
    }

    private static void turnsQ() {
        Check.due("18: two digits", "t-[ AZ\u00ff\u00ff]", turned("q", "=20=41=5a=fF=FF"));
        Check.due("18: no digits", "t-[=2g=G2=2]", turned("q", "=2g=G2=2"));
        Check.due("18: '=' at the end", "t-[a=]", turned("q", "a="));
        Check.due("18: '=' and blanks at the end", "t-[a= ]", turned("q", "a= "));
        Check.due("18: '=' and a byte 10", "t-[ab]", turned("q", "a=\nb"));
        Check.due("18: '=', blanks and a byte 10", "t-[ab]", turned("q", "a= \t \nb"));
        Check.due("18: '=', blanks and a sign", "t-[a= \tb]", turned("q", "a= \tb"));
        Check.due("18: '_' is itself", "t-[a_ \nb]", turned("q", "a_ \nb"));
        Check.due("18: '=' behind '='", "t-[==3]", turned("q", "==3D3"));
        Check.due("18: a byte is not turned again", "t-[=41]", turned("q", "=3D41"));
        Check.due("18: blanks at both ends", "t-[A]", turned(" q ", "=41"));
        Check.due("18: a capital", "t-[=41]", turned("Q", "=41"));
        Check.due("18: a longer value", "t-[=41]", turned("qq", "=41"));
        Check.due("18: '=' must have them within the part", "m- t0[=4] t0[=]",
                ab("--ab\ncoding:q\n\n=4\n--ab\ncoding:q\n\n=\n--ab--"));
    }

    private static void turnsB() {
        Check.due("18: four are three", "t-[foobar]", turned("b", "Zm9vYmFy"));
        Check.due("18: two are one", "t-[foob]", turned("b", "Zm9vYg=="));
        Check.due("18: three are two", "t-[fooba]", turned("b", "Zm9vYmE="));
        Check.due("18: one is none", "t-[foo]", turned("b", "Zm9vY"));
        Check.due("18: all sixty-four", "t-[\u00fb\u00ff\u00be\0\u0010\u0083]", turned("b", "+/++ABCD"));
        Check.due("18: '=' ends it", "t-[f]", turned("b", "Zm=9vYmFy"));
        Check.due("18: all else is left out", "t-[foo]", turned("b", "Z-m\n9 _v\u00e9"));
        Check.due("18: empty", "t-[]", turned("b", ""));
        Check.due("18: otherwise nothing is turned", "t-[Zm9v=41]", turned("x", "Zm9v=41"));
        Check.due("18: without the field", "t-[=41]", Check.shape("\n=41"));
        Check.due("18: each part its own", "m- t0[A] t0[foo] t0[=41]",
                ab("--ab\ncoding:q\n\n=41\n--ab\ncoding:b\n\nZm9v\n--ab\n\n=41"));
        Check.due("18: a multi part has none", "m- t0[=41]",
                Check.shape("coding:q\ntype:multi;b=ab\n\n--ab\n\n=41"));
    }

    private static void wrongCalls() {
        Check check = new Check();
        PostSieve post = check.post;
        check.mail("type:multi;b=ab\n\n--ab\n\nxy\n--ab--");
        for (int message : new int[] {-1, 1, Integer.MAX_VALUE, Integer.MIN_VALUE}) {
            Check.thrown("15: no message", Check.INDEX, () -> post.parts(message));
            Check.thrown("16: no message", Check.INDEX, () -> post.typeOf(message, 0));
            Check.thrown("17: no message", Check.INDEX, () -> post.parentOf(message, 0));
            Check.thrown("18: no message", Check.INDEX, () -> post.bytes(message, 0));
            Check.thrown("19: no message", Check.INDEX, () -> post.byteAt(message, 0, 0));
        }
        for (int part : new int[] {-1, 2, Integer.MAX_VALUE, Integer.MIN_VALUE}) {
            Check.thrown("16: no part", Check.INDEX, () -> post.typeOf(0, part));
            Check.thrown("17: no part", Check.INDEX, () -> post.parentOf(0, part));
            Check.thrown("18: no part", Check.INDEX, () -> post.bytes(0, part));
            Check.thrown("19: no part", Check.INDEX, () -> post.byteAt(0, part, 0));
        }
        Check.thrown("17: the message itself", Check.NONE_SUCH, () -> post.parentOf(0, 0));
        Check.thrown("18: no text", Check.NOT_SUPPORTED, () -> post.bytes(0, 0));
        Check.thrown("19: no text", Check.NOT_SUPPORTED, () -> post.byteAt(0, 0, -1));
        Check.due("15: parts", 2, post.parts(0));
        Check.due("16: multi", 'm', post.typeOf(0, 0));
        Check.due("16: text", 't', post.typeOf(0, 1));
        Check.due("17: parentOf", 0, post.parentOf(0, 1));
        Check.due("18: bytes", 2, post.bytes(0, 1));
        Check.due("19: byteAt", (int) 'y', post.byteAt(0, 1, 1));
        Check.thrown("19: below 0", Check.NONE_SUCH, () -> post.byteAt(0, 1, -1));
        Check.thrown("19: behind the end", Check.NONE_SUCH, () -> post.byteAt(0, 1, 2));
        check.mail("type:multi;b=ab\n\n--ab\n\nxy\n--ab\n\nz\n--ab--");
        Check.thrown("19: behind the end, with a part behind", Check.NONE_SUCH, () -> post.byteAt(1, 1, 2));
        Check.due("19: the part behind", (int) 'z', post.byteAt(1, 2, 0));
        Check.thrown("19: behind the end of the part behind", Check.NONE_SUCH, () -> post.byteAt(1, 2, 1));
        Check.thrown("19: ahead of the part behind", Check.NONE_SUCH, () -> post.byteAt(1, 2, -1));
    }

    private static void means() {
        Check check = new Check();
        Check.thrown("48: no messages", Check.ARITHMETIC, () -> check.post.meanParts());
        check.mail("");
        Check.due("48: one", 1.0, check.post.meanParts());
        check.mail("type:wrap");
        Check.due("48: three parts of two", 1.5, check.post.meanParts());
        check.mail("type:multi;b=a\n\n--a\n--a");
        Check.due("48: six parts of three", 2.0, check.post.meanParts());
        check.mail("");
        check.mail("");
        check.mail("");
        Check.due("48: nine parts of six", 1.5, check.post.meanParts());
        check.mail("");
        Check.due("48: ten parts of seven", 10.0 / 7.0, check.post.meanParts());
    }
}

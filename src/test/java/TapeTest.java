/** The promises 1 to 3 and 8: a new object, feed, cut and send. */
public final class TapeTest {
    public static void main(String[] args) {
        newObject();
        feeds();
        cuts();
        sends();
        Check.end("TapeTest");
    }

    private static void newObject() {
        PostSieve post = new PostSieve();
        Check.due("1: the length of a new tape", 0, post.cut(0));
        Check.thrown("1: no message", Check.INDEX, () -> post.parts(0));
        Check.thrown("1: no person", Check.INDEX, () -> post.room(0));
        Check.thrown("1: no script", Check.INDEX, () -> post.dropRules(0));
        Check.thrown("1: no session", Check.NONE_SUCH, () -> post.sees(0));
        Check.due("1: no thread", 0, post.threads());
        Check.due("1: the word", 0, post.clear());
        Check.due("1: the day is 0", 1, post.pass(1));
        for (char what : "clfad".toCharArray()) {
            Check.due("1: counted " + what, 0, post.counted(what));
        }
    }

    private static void feeds() {
        Check check = new Check();
        Check.due("2: feed", 20, check.post.feed(0x61626364, 0x0a0a65ff, -1, 0x80000001, 5));
        Check.due("2: feed again", 40, check.post.feed(0, 0, 0, 0, 0x0102037f));
        check.post.send();
        String due = "e\u00ff\u00ff\u00ff\u00ff\u00ff\u0080\0\0\1\0\0\0\5" + "\0".repeat(16) + "\1\2\3\u007f";
        Check.due("2: the bytes, the highest ones first", due, check.text(0, 0));
        for (int length = 20; length <= 2000; length += 20) {
            Check.due("2: feed", length, check.post.feed(0, 0, 0, 0, 0));
        }
        Check.thrown("2: more than 2000 bytes", Check.NOT_SUPPORTED, () -> check.post.feed(1, 1, 1, 1, 1));
        check.post.cut(1981);
        Check.thrown("2: 2001 bytes", Check.NOT_SUPPORTED, () -> check.post.feed(1, 1, 1, 1, 1));
        Check.due("2: the tape is as it was", 1, check.post.cut(1980));
        Check.due("2: 2000 bytes again", 2000, check.post.feed(1, 1, 1, 1, 1));
    }

    private static void cuts() {
        Check check = new Check();
        check.tape("\n12345678901234567890");
        Check.thrown("3: below 0", Check.ARGUMENT, () -> check.post.cut(-1));
        Check.thrown("3: above the length", Check.ARGUMENT, () -> check.post.cut(22));
        Check.due("3: nothing", 0, check.post.cut(21));
        Check.due("3: all but four", 17, check.post.cut(4));
        check.post.send();
        Check.due("3: what is kept", "123", check.text(0, 0));
        check.tape("\nabc");
        Check.due("3: all", 4, check.post.cut(0));
        Check.thrown("3: an empty tape", Check.ARGUMENT, () -> check.post.cut(1));
    }

    private static void sends() {
        Check check = new Check();
        for (int message = 0; message < 20; message++) {
            Check.due("8: send", message, check.mail("\nx"));
            Check.due("8: the tape is empty then", 0, check.post.cut(0));
        }
        check.tape("left");
        Check.thrown("8: there are 20 messages", Check.STATE, () -> check.post.send());
        Check.due("8: the tape stays", 4, check.post.cut(0));
        Check empty = new Check();
        Check.due("8: an empty tape", 0, empty.post.send());
        Check.due("8: it has one part", 1, empty.post.parts(0));
        Check.due("8: it has no bytes", 0, empty.post.bytes(0, 0));
        Check.due("8: its seal", 17, empty.post.seal(0));
    }
}

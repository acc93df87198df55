/** The promises 43 to 45: threads and parents, which do not hang on the order in which mail comes. */
public final class ThreadTest {
    public static void main(String[] args) {
        parents();
        rings();
        sameIds();
        orphans();
        answers();
        bases();
        chains();
        orders();
        calls();
        Check.end("ThreadTest");
    }

    /** Each mail as "id refs|subject". */
    private static Check with(String... mails) {
        Check check = new Check();
        for (String mail : mails) {
            check.mail(text(mail));
        }
        return check;
    }

    private static String text(String mail) {
        int bar = mail.indexOf('|');
        String numbers = bar < 0 ? mail : mail.substring(0, bar);
        int blank = numbers.indexOf(' ');
        return "id:" + (blank < 0 ? numbers : numbers.substring(0, blank))
                + (blank < 0 ? "" : "\nrefs:" + numbers.substring(blank + 1))
                + (bar < 0 ? "" : "\nsubject:" + mail.substring(bar + 1)) + "\n\n";
    }

    /** The thread and the parent of each message: "1- 1/1". */
    private static String joined(Check check, int mails) {
        StringBuilder joined = new StringBuilder();
        for (int message = 0; message < mails; message++) {
            joined.append(message == 0 ? "" : " ").append(check.post.thread(message));
            try {
                int above = check.post.above(message);
                joined.append('/').append(above);
            } catch (java.util.NoSuchElementException none) {
                joined.append('-');
            }
        }
        return joined.toString();
    }

    private static void joins(String what, String due, int threads, String... mails) {
        Check check = with(mails);
        Check.due("43, 44: " + what, due, joined(check, mails.length));
        Check.due("45: " + what, threads, check.post.threads());
    }

    private static void parents() {
        joins("one", "7-", 1, "7");
        joins("two", "7- 8-", 2, "7", "8");
        joins("a ref", "7- 7/7", 1, "7", "8 7");
        joins("a ref to a greater id", "7/8 7-", 1, "7 8", "8");
        joins("the last ref", "1- 2- 2/2", 2, "1", "2", "3 1 2");
        joins("the last ref that is there", "1- 1/1", 1, "1", "3 1 2");
        joins("the last ref that is another one", "1- 1/1", 1, "1", "3 1 3");
        joins("below what is below", "1- 1/1 1/2", 1, "1", "2 1", "3 2");
        joins("the id 0", "0- 0/0", 1, "0", "5 0");
        joins("the sixth ref", "1- 2- 2/2", 2, "1", "2", "3 1 1 1 1 1 2");
        joins("a seventh ref is left out", "1- 2- 1/1", 2, "1", "2", "3 1 1 1 1 1 1 2");
        joins("seven digits are one ref", "123456- 7- 123456/123456", 2, "123456", "7", "123457 1234567");
        Check ahead = new Check();
        ahead.mail("id:1\n\n");
        ahead.mail("refs:1\nid:2\n\n");
        Check.due("44: refs ahead of all", 1, ahead.post.above(1));
        joins("rows of digits", "1- 2- 2/2", 2, "1", "2", "3 x1y2z");
        joins("signs around a row of digits", "1- 1/1", 1, "1", "3 <0001>");
        joins("refs in comments are left out", "1- 2- 1/1", 2, "1", "2", "3 1 (2)");
    }

    private static void rings() {
        joins("a ring of two", "1/2 1-", 1, "1 2", "2 1");
        joins("a ring of three", "1/2 1/3 1-", 1, "1 2", "2 3", "3 1");
        joins("a ring of three, the other way", "1/3 1/1 1-", 1, "1 3", "2 1", "3 2");
        joins("itself", "1-", 1, "1 1");
        joins("then none, whatever other refs there are", "1/2 1- 3-", 2, "1 2", "2 3 1", "3");
    }

    private static void sameIds() {
        Check check = new Check();
        int[] seals = {check.post.seal(check.mail("id:2\nrefs:1\n\n")), check.post.seal(check.mail("id:2\n\nx"))};
        Check.due("24: the seals differ", true, seals[0] != seals[1]);
        boolean isFirst = seals[0] > seals[1];
        check.mail("id:1\n\n");
        Check.due("44: the one with the greatest seal counts", isFirst ? "1/1 1/1 1-" : "2- 2- 1-", joined(check, 3));
        Check two = new Check();
        boolean isPlain = isFirst;
        two.mail("id:2\n\nx");
        two.mail("id:1\n\n");
        two.mail("id:2\nrefs:1\n\n");
        Check.due("44: in another order", isPlain ? "1/1 1- 1/1" : "2- 1- 2-", joined(two, 3));
        Check.due("45: those with the same id are one", isPlain ? 1 : 2, two.post.threads());
        joins("of the same seal the lowest number", "1- 3- 1/1 1/1", 2, "1", "3", "2 1", "2 3");
        joins("of the same seal the lowest number, the other way", "1- 2- 2/3 2/3", 2, "1", "3", "2 3", "2 1");
        // Seals go round, and one below 0 is less than one above.
        String below = bodySealed(-1);
        String over = bodySealed(1);
        Check signed = new Check();
        signed.mail("id:1\n\n");
        signed.mail("id:4\nrefs:1\n\n" + below);
        signed.mail("id:4\n\n" + over);
        Check.due("44: the one above 0 counts", "1- 4- 4-", joined(signed, 3));
        Check other = new Check();
        other.mail("id:1\n\n");
        other.mail("id:4\nrefs:1\n\n" + over);
        other.mail("id:4\n\n" + below);
        Check.due("44: the one above 0 counts, the other way", "1- 1/1 1/1", joined(other, 3));
    }

    /** A body with which a message of the id 4 has a seal of this sign. */
    private static String bodySealed(int sign) {
        Check check = new Check();
        for (int length = 1; length < 20; length++) {
            String body = "x".repeat(length);
            if (Integer.signum(check.post.seal(check.mail("id:4\n\n" + body))) == sign) {
                return body;
            }
        }
        throw new AssertionError("no such body");
    }

    private static void orphans() {
        joins("the same first ref", "2- 2-", 1, "2 9", "3 9");
        joins("of three", "2- 3- 2-", 2, "2 9 8", "3 8 9", "4 9 7");
        joins("one of them there", "2- 3/5 3-", 2, "2 9 7", "3 9 5", "5 6");
        joins("itself among them", "2- 3-", 2, "2 9", "3 9 3");
        joins("another one that refers to itself", "2/3 2-", 1, "2 3", "3 3");
    }

    private static void answers() {
        joins("an answer", "2- 2-", 1, "2|x", "3|Re: x");
        joins("an answer with a lower id", "1- 1-", 1, "2|x", "1|re:x");
        joins("the lowest id", "4- 2- 2-", 2, "4|x", "2|x", "5|fwd: x");
        joins("another base", "2- 3-", 2, "2|x", "3|Re: y");
        joins("no plain one", "2- 3-", 2, "2|re: x", "3|Re: x");
        joins("taken off at the end alone", "2- 3-", 2, "2|x", "3|x =?q?=28fwd=29?=");
        joins("such a one is plain", "2- 2-", 1, "2|x =?q?=28fwd=29?=", "3|re: x");
        joins("with refs", "2- 3-", 2, "2|x", "3 9|Re: x");
        joins("the plain one has refs", "2- 3-", 2, "2 9|x", "3|Re: x");
        joins("the plain one is below another", "1- 1/1 3-", 2, "1|y", "2 1|x", "3|Re: x");
        joins("an empty base", "2- 2-", 1, "2", "3|Re:");
        joins("a ring", "2- 3/4 3- 5-", 3, "2|y", "3 4|x", "4 3|x", "5|re: x");
    }

    private static void bases() {
        for (String subject : new String[] {"RE: Hello", "re:hello", "Fwd:hello", "re: re:  FWD:HELLO", "re:fwd: hello",
            "re: hello =?q?=28fwd=29?=", "Re:hello=?q?_=28FWD=29=28Fwd=29_?=", "=?q?_re:_?=hello", "fwd:fwd: hello"}) {
            joins("the base of " + subject, "1- 1-", 1, "1|hello", "2|" + subject);
        }
        for (String subject : new String[] {"hello", "re hello", "re : hello", "fw: hello", "rere: hello", "a re: hello",
            "re: hello re:", "re: hello fwd", "re: hello =?q?=28fwd=29?= x", "re: he llo", "re: hell", "re: helloo",
            "=?q?=28fwd=29?= hello", "=?q?=28fwd=29?= re: hello", "xe:hello", "rx:hello", "re;hello", "xwd:hello", "fxd:hello",
            "fwx:hello", "fwd;hello", "re:hello=?q?xfwd=29?=", "re:hello=?q?=28xwd=29?=", "re:hello=?q?=28fxd=29?=",
            "re:hello=?q?=28fwx=29?=", "re:hello=?q?=28fwdx?="}) {
            joins("not the base of " + subject, "1- 2-", 2, "1|hello", "2|" + subject);
        }
        joins("bases with other signs", "1- 1-", 1, "1|[x] \u00e9", "2|Re: [X] \u00c9");
        joins("small letters on both sides", "1- 1-", 1, "1|HeLLo", "2|Re: hElLO");
    }

    private static void chains() {
        joins("over some steps", "1- 1- 1/3 1- 1-", 1, "1|x", "3|Re: x", "4 3", "5|fwd: x", "6|re: re: x");
        joins("orphans with what is below", "2- 3- 2/2 3/3 3-", 2, "2 9", "3 8", "4 2", "5 3", "6 8");
        joins("two that hang on one root", "1- 1/1 1/1 1/2 1/3", 1, "1", "2 1", "3 1", "4 2", "5 3");
        joins("what is below answers", "1- 1- 1/2", 1, "1|x", "2|re: x", "3 2|re: y");
    }

    private static void orders() {
        String[] mails = {"1|x", "2 1|re: x", "3|Re: x", "4 9 8", "5 9", "6 5 3", "7 8 7", "8 7"};
        String due = null;
        for (int turn = 0; turn < mails.length; turn++) {
            Check check = new Check();
            for (int at = 0; at < mails.length; at++) {
                check.mail(text(mails[(at * 3 + turn) % mails.length]));
            }
            StringBuilder found = new StringBuilder();
            for (int id = 1; id <= mails.length; id++) {
                for (int message = 0; message < mails.length; message++) {
                    if (check.post.idOf(message) == id) {
                        found.append(check.post.thread(message)).append(' ');
                    }
                }
            }
            due = due == null ? found.toString() : due;
            Check.due("43: in the turn " + turn, due, found.toString());
        }
        Check late = with("3 2");
        Check.due("43: alone", 3, late.post.thread(0));
        late.mail(text("2 1"));
        late.mail(text("1"));
        Check.due("43: when all have come", "1/2 1/1 1-", joined(late, 3));
    }

    private static void calls() {
        Check check = with("1", "2 1");
        check.mail("to:a1\n\n");
        Check.due("45: those without an id are in none", 1, check.post.threads());
        Check.due("45: none", 0, new PostSieve().threads());
        for (int message : new int[] {-1, 3, Integer.MAX_VALUE}) {
            Check.thrown("43: no message", Check.INDEX, () -> check.post.thread(message));
            Check.thrown("44: no message", Check.INDEX, () -> check.post.above(message));
        }
        Check.thrown("43: no id", Check.NONE_SUCH, () -> check.post.thread(2));
        Check.thrown("44: no id", Check.NONE_SUCH, () -> check.post.above(2));
        Check.thrown("44: no parent", Check.NONE_SUCH, () -> check.post.above(0));
        Check.due("44: the parent", 1, check.post.above(1));
        Check.due("43: the lowest id", 1, check.post.thread(1));
    }
}

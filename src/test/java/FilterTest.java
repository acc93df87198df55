/** Sending, as the promises 8, 12 and 46 have it: deliveries, tests, patterns, actions and what is counted. */
public final class FilterTest {
    public static void main(String[] args) {
        deliveries();
        addressTests();
        textTests();
        patterns();
        captures();
        capturesKept();
        keeps();
        marksFlags();
        ends();
        includes();
        loops();
        sixtyRules();
        redirects();
        circles();
        thirtyDeliveries();
        counts();
        Check.end("FilterTest");
    }

    /** Whether a rule with this test and pattern is met by a message. */
    private static boolean isMet(String test, String data) {
        Check check = new Check().people("a1").scripts(1);
        String[] words = test.split(" ", 2);
        check.rule(0, words[0] + " k 1" + (words.length > 1 ? " " + words[1] : ""));
        check.post.setScript(0, 0);
        check.mail(data);
        boolean isMet = check.post.items(0, 1) == 1;
        Check.due("12: else it is in the box 0", isMet ? 0 : 1, check.post.items(0, 0));
        return isMet;
    }

    private static void met(String what, String test, String data) {
        Check.due("12: " + what, true, isMet(test, data));
        Check.due("12: turned, " + what, false, isMet("!" + test, data));
    }

    private static void unmet(String what, String test, String data) {
        Check.due("12: " + what, false, isMet(test, data));
        Check.due("12: turned, " + what, true, isMet("!" + test, data));
    }

    private static void deliveries() {
        Check check = new Check().people("a1", "b2", "c3");
        check.mail("to:z9\n\n");
        Check.due("46: no one has the address", 0, check.post.counted('d'));
        check.mail("from:a1\n\n");
        Check.due("46: no to address", 0, check.post.counted('d'));
        check.mail("to:c3,a1,c3\n\n");
        Check.due("46: each once", 2, check.post.counted('d'));
        Check.due("8: kept in the box 0", "1:2", check.box(0, 0));
        Check.due("8: not for others", "", check.box(1, 0));
        Check.due("8: kept in the box 0 of the other", "1:2", check.box(2, 0));
        check.people("z9");
        Check.due("8: people who come later have none", 0, check.post.items(3, 0));
        check.mail("to:a2,a3,a4,a5,a1\n\n");
        Check.due("8: at most 4 addresses", 2, check.post.counted('d'));
    }

    private static void addressTests() {
        met("from", "f b2", "from:b2\nto:a1\n\n");
        unmet("from another", "f b3", "from:b2\nto:a1\n\n");
        met("no from is nothing", "f", "to:a1\n\n");
        unmet("from is not nothing", "f", "from:b2\nto:a1\n\n");
        met("'?' in an address", "f ?2", "from:b2\nto:a1\n\n");
        met("from a0", "f a0", "from:a0\nto:a1\n\n");
        met("from z9", "f z9", "from:z9\nto:a1\n\n");
        met("the first to", "t a1", "to:a1,b2\n\n");
        met("the last to", "t d4", "to:a1,b2,c3,d4\n\n");
        unmet("no to", "t e5", "to:a1,b2,c3,d4,e5\n\n");
        unmet("all to at once", "t a1b2", "to:a1,b2\n\n");
        unmet("nothing is no to", "t", "to:a1\n\n");
    }

    private static void textTests() {
        met("subject", "s Hello", "to:a1\nsubject: Hello\n\n");
        unmet("another case", "s hello", "to:a1\nsubject: Hello\n\n");
        unmet("a longer subject", "s Hell", "to:a1\nsubject: Hello\n\n");
        unmet("a shorter subject", "s Hello!", "to:a1\nsubject: Hello\n\n");
        met("no subject is empty", "s", "to:a1\n\n");
        met("a coded subject", "s (x)", "to:a1\nsubject:=?q?=28x=29?=\n\n");
        met("sixty signs", "s *.", "to:a1\nsubject:" + "123456789.".repeat(6) + "x\n\n");
        met("list", "i news", "to:a1\nlist:news (x)\n\n");
        met("no list is nothing", "i", "to:a1\n\n");
        met("an empty list is nothing", "i", "to:a1\nlist:\n\n");
        met("a coded word in a list is itself", "i =?q?a?=", "to:a1\nlist:=?q?a?=\n\n");
        met("sixty signs of a list", "i *.", "to:a1\nlist:" + "123456789.".repeat(6) + "x\n\n");
        met("always", "a", "to:a1\n\n");
        met("always, with a pattern", "a nothing", "to:a1\n\n");
        met("length", "z", "to:a1\n\n");
        met("21 is greater than 20", "z ab", "to:a1\n\n12345678901234");
        unmet("20 is not greater than 20", "z ab", "to:a1\n\n1234567890123");
        met("121 is greater than 120", "z *?$*?$*?$*?$", "to:a1\n\n" + "x".repeat(114));
        unmet("120 is not greater than 120", "z *?$*?$*?$*?$", "to:a1\n\n" + "x".repeat(113));
    }

    private static void pattern(String pattern, String subject, boolean due) {
        String data = "to:a1\nsubject:" + subject + "\n\n";
        Check.due("12: the pattern " + pattern + " of " + subject, due, isMet("s " + pattern, data));
    }

    private static void patterns() {
        pattern("*", "", true);
        pattern("*", "abc", true);
        pattern("?", "", false);
        pattern("?", "a", true);
        pattern("?", "ab", false);
        pattern("?*", "", false);
        pattern("*?", "abc", true);
        pattern("a*c", "abc", true);
        pattern("a*c", "ac", true);
        pattern("a*c", "acb", false);
        pattern("a*c", "abcbc", true);
        pattern("*b*", "abc", true);
        pattern("*b*", "acc", false);
        pattern("**", "", true);
        pattern("*a*a*", "banana", true);
        pattern("*a*a*a*a*", "banana", false);
        pattern("a?c", "a#c", true);
        pattern("a.c", "abc", false);
        pattern("[a]\\", "[a]\\", true);
        pattern("*?a", "a", false);
        pattern("ab*bc", "abc", false);
        pattern("*#", "x\u00e9", true);
        pattern("*?*", "x".repeat(60), true);
        pattern("*y*", "x".repeat(60), false);
        pattern("*y*", "x".repeat(59) + "y", true);
        pattern("*x*x*x*x*x*", "x".repeat(60), true);
        pattern("????????????", "x".repeat(12), true);
        pattern("????????????", "x".repeat(13), false);
        pattern("???????????*", "x".repeat(11), true);
        pattern("???????????*", "x".repeat(10), false);
    }

    /** The captured signs behind a rule with this pattern, as the subject of the next message tells them. */
    private static boolean captures(String pattern, String subject, String captured) {
        Check check = new Check().people("a1").scripts(1);
        check.rule(0, "s m 0 " + pattern).rule(0, "i k 1 <$>");
        check.post.setScript(0, 0);
        check.mail("to:a1\nsubject:" + subject + "\nlist:<" + captured + ">\n\n");
        return check.post.items(0, 1) == 1;
    }

    private static void captured(String pattern, String subject, String due) {
        Check.due("12: " + pattern + " of " + subject + " captures " + due, true, captures(pattern, subject, due));
        Check.due("12: and not more", false, captures(pattern, subject, due + "+"));
    }

    private static void captures() {
        captured("*", "abc", "abc");
        captured("a*c", "abbc", "bb");
        captured("a*", "a", "");
        captured("*b*", "abcbd", "a");
        captured("*b*d", "abcbd", "a");
        captured("*bd", "abcbd", "abc");
        captured("**", "abc", "");
        captured("*?", "abc", "ab");
        captured("?*", "abc", "bc");
        captured("*a*c*", "bacaca", "b");
        captured("*c*c", "acbcbc", "a");
        captured("x*", "abc", "");
        captured("abc", "abc", "");
        captured("*", "12345678901234567890", "12345678901234567890");
        captured("*", "123456789012345678901", "12345678901234567890");
        captured("*x", "1234567890123456789012345x", "12345678901234567890");
        captured("*", "*?$", "*?$");
        captured("123456789*", "12345678901234567890123", "01234567890123");
        captured("12345678901*", "123456789012345678901234567890123", "23456789012345678901");
        captured("*9*", "1234567890".repeat(6), "12345678");
        captured("**0", "1234567890".repeat(6), "");
        captured("*0*", "x".repeat(59) + "0", "x".repeat(20));
        Check.due("12: what is captured is no wildcard", false, captures("*", "*", "abc"));
        Check.due("12: nor is '?'", false, captures("*", "?", "a"));
    }

    /** Whether "$" is this text, as a field list has it, behind some rules. */
    private static boolean isCaptured(String list, String... rules) {
        Check check = new Check().people("a1").scripts(1);
        for (String rule : rules) {
            check.rule(0, rule);
        }
        check.rule(0, "i k 1 <$>");
        check.post.setScript(0, 0);
        check.mail("from:b2\nto:a1,c3\nsubject:hello\nlist:<" + list + ">\n\n");
        return check.post.items(0, 1) == 1;
    }

    private static void capturesKept() {
        Check.due("12: nothing at first", true, isCaptured(""));
        Check.due("12: the last pattern that matched", true, isCaptured("o", "s m 0 *llo", "s m 0 hell*"));
        Check.due("12: not one that did not", true, isCaptured("he", "s m 0 *llo", "s m 0 x*"));
        Check.due("12: not one that is too short", true, isCaptured("he", "s m 0 *llo", "s m 0 hell"));
        Check.due("12: not one that is too long", true, isCaptured("he", "s m 0 *llo", "s m 0 hello!"));
        Check.due("12: one without '*'", true, isCaptured("", "s m 0 *llo", "s m 0 hello"));
        Check.due("12: one that is turned round", true, isCaptured("he", "!s m 0 *llo"));
        Check.due("12: 'a' has none", true, isCaptured("he", "s m 0 *llo", "a m 0 x*"));
        Check.due("12: 'z' has none", true, isCaptured("he", "s m 0 *llo", "z m 0 *"));
        Check.due("12: of from", true, isCaptured("b", "f m 0 *2"));
        Check.due("12: of the first to that matches", true, isCaptured("a", "t m 0 *?"));
        Check.due("12: of the second to", true, isCaptured("c", "t m 0 *3"));
        Check.due("12: '$' is what was ahead of its pattern", true, isCaptured("o", "s m 0 h*llo", "s m 0 h$ll*"));
        Check.due("12: twice", true, isCaptured("e", "s m 0 hel*o", "s m 0 h*$$o"));
        Check.due("12: of the list itself", true, isCaptured("news", "i m 0 <*>"));
        Check check = new Check().people("a1").scripts(1).rule(0, "s k 2 $").rule(0, "s m 0 *");
        check.post.setScript(0, 0);
        check.mail("to:a1\nsubject:x\n\n");
        check.mail("to:a1\nsubject:x\n\n");
        Check.due("12: nothing at first in each delivery", 0, check.post.items(0, 2));
    }

    private static Check delivered(String... rules) {
        Check check = new Check().people("a1", "b2").scripts(3);
        for (String rule : rules) {
            check.rule(0, rule);
        }
        check.post.setScript(0, 0);
        check.mail("to:a1\n\n");
        return check;
    }

    private static String boxes(Check check) {
        StringBuilder boxes = new StringBuilder();
        for (int box = 0; box < 4; box++) {
            boxes.append(check.post.items(0, box));
        }
        return boxes.toString();
    }

    private static void keeps() {
        Check.due("12: without rules", "1000", boxes(delivered()));
        Check.due("12: kept", "0001", boxes(delivered("a k 3")));
        Check.due("12: kept twice", "0110", boxes(delivered("a k 1", "a k 2")));
        Check.due("12: kept twice in one box", "0100", boxes(delivered("a k 1", "a k 1")));
        Check.due("12: kept in the box 0", "1000", boxes(delivered("a k 0")));
        Check.due("12: discarded", "0000", boxes(delivered("a d 0")));
        Check.due("12: discarded and kept", "0100", boxes(delivered("a d 0", "a k 1")));
        Check.due("12: flags alone", "1000", boxes(delivered("a m 3")));
        Check.due("12: redirected", "0000", boxes(delivered("a r 1")));
        Check.due("12: redirected to no one", "1000", boxes(delivered("a r 2")));
        Check.due("12: redirected to oneself", "1000", boxes(delivered("a r 0")));
        Check check = new Check().people("a1").scripts(1).rule(0, "a k 1").rule(0, "a k 1").rule(0, "a k 2");
        check.post.setScript(0, 0);
        check.post.setQuota(0, 6);
        check.mail("to:a1\n\n");
        Check.due("12: refused is done", "0000", boxes(check));
        Check.due("46: once in one box", 2, check.post.counted('f'));
        check.post.setQuota(0, 7);
        check.mail("to:a1\n\n");
        Check.due("5: room for one", "0100", boxes(check));
        Check.due("46: the other is refused", 3, check.post.counted('f'));
    }

    private static void marksFlags() {
        Check check = delivered("a k 1", "a m 1", "a k 2", "a m 4", "a k 3", "a k 1");
        for (int box = 1; box < 4; box++) {
            check.post.open(0, 0, box);
        }
        Check.due("12: kept ahead of it", "1/0", check.seen(0));
        Check.due("12: kept behind it", "1/1", check.seen(1));
        Check.due("12: added", "1/5", check.seen(2));
        Check last = delivered("a m 8", "a m 10");
        last.post.open(0, 0, 0);
        Check.due("12: kept at the end", "1/10", last.seen(0));
        last.post.dropRules(0);
        last.mail("to:a1\n\n");
        last.post.told(0);
        Check.due("12: of this delivery", "1/10 2/0", last.seen(0));
    }

    private static void ends() {
        Check.due("12: ended", "1000", boxes(delivered("a x 0", "a k 1")));
        Check.due("12: ended behind", "0100", boxes(delivered("a k 1", "a x 0", "a k 2")));
        Check.due("12: not ended", "0100", boxes(delivered("!a x 0", "a k 1")));
        Check check = new Check().people("a1", "b2").scripts(2).rule(0, "a n 1").rule(0, "a k 1").rule(1, "a x 0");
        check.post.setScript(0, 0);
        check.mail("to:a1\n\n");
        Check.due("12: all scripts", "1000", boxes(check));
        Check.due("46: that is no loop", 0, check.post.counted('l'));
    }

    private static void includes() {
        Check check = new Check().people("a1").scripts(3);
        check.rule(0, "a n 1").rule(0, "a n 5").rule(0, "a n 1").rule(0, "a k 3");
        check.rule(1, "a k 1").rule(1, "a n 2").rule(2, "a k 2").rule(2, "a m 1");
        check.post.setScript(0, 0);
        check.mail("to:a1\n\n");
        Check.due("12: done, and goes on", "0111", boxes(check));
        Check.due("46: twice is no loop", 0, check.post.counted('l'));
        check.post.open(0, 0, 3);
        Check.due("12: the flags stay", "1/1", check.seen(0));
        Check kept = new Check().people("a1").scripts(2);
        kept.rule(0, "a n 1").rule(0, "i k 1 <$>").rule(1, "s m 0 h*o");
        kept.post.setScript(0, 0);
        kept.mail("to:a1\nsubject:hello\nlist:<ell>\n\n");
        Check.due("12: what is captured stays", "0100", boxes(kept));
        Check none = new Check().people("a1").scripts(1).rule(0, "a n 1").rule(0, "a k 2");
        none.post.setScript(0, 0);
        none.mail("to:a1\n\n");
        Check.due("12: there is no such script", "0010", boxes(none));
        none.scripts(1).rule(1, "a k 3");
        none.mail("to:a1\n\n");
        Check.due("12: there is one now", "0011", boxes(none).replace("2", "1"));
    }

    private static void loops() {
        Check each = new Check().people("a1", "b2").scripts(2).rule(0, "a n 0").rule(1, "a k 1");
        each.post.setScript(0, 0);
        each.post.setScript(1, 1);
        each.mail("to:a1,b2\n\n");
        Check.due("12: the loop of one delivery is none of the next one", 0, each.post.items(1, 0));
        Check.due("12: that keeps it as its rules say", 1, each.post.items(1, 1));
        Check self = delivered("a k 2", "a n 0", "a k 3");
        Check.due("12: a script that includes itself", "1010", boxes(self));
        Check.due("46: a loop", 1, self.post.counted('l'));
        Check check = new Check().people("a1").scripts(3);
        check.rule(0, "a n 1").rule(0, "a k 1").rule(1, "a n 2").rule(1, "a k 2").rule(2, "a d 0").rule(2, "a n 0");
        check.post.setScript(0, 0);
        check.mail("to:a1\n\n");
        Check.due("12: all scripts end, and it is kept", "1000", boxes(check));
        Check.due("46: over three scripts", 1, check.post.counted('l'));
        check.mail("to:a1\n\n");
        Check.due("46: again", 2, check.post.counted('l'));
        Check.due("12: kept once in the box 0", "1000", boxes(delivered("a k 0", "a n 0")));
        Check inner = new Check().people("a1").scripts(3).rule(0, "a n 1").rule(1, "a n 1");
        inner.post.setScript(0, 0);
        inner.mail("to:a1\n\n");
        Check.due("46: of an inner one", 1, inner.post.counted('l'));
        Check refused = new Check().people("a1").scripts(1).rule(0, "a k 0").rule(0, "a n 0");
        refused.post.setScript(0, 0);
        refused.post.setQuota(0, 1);
        refused.mail("to:a1\n\n");
        Check.due("46: refused once", 1, refused.post.counted('f'));
    }

    private static void sixtyRules() {
        Check check = new Check().people("a1").scripts(4);
        for (int left = 5; left > 0; left--) {
            check.rule(0, "a n 1");
            check.rule(1, "a m 1");
        }
        check.rule(0, "a k 1").rule(1, "a n 2").rule(2, "a m 2");
        check.post.setScript(0, 0);
        check.mail("to:a1\n\n");
        Check.due("12: forty-one rules", "0100", boxes(check));
        check.post.dropRules(2);
        for (int left = 5; left > 0; left--) {
            check.rule(2, "a m 2");
        }
        check.mail("to:a1\n\n");
        Check.due("12: 5 times 12 rules, and not the next one", "1100", boxes(check));
        check.post.dropRules(2);
        check.rule(2, "a m 2").rule(2, "a m 2").rule(2, "a m 2").rule(2, "a m 2");
        check.mail("to:a1\n\n");
        Check.due("12: 56 rules", "1200", boxes(check));
        check.post.dropRules(2);
        check.rule(2, "!a m 2").rule(2, "!s m 2").rule(2, "f m 2 x").rule(2, "a m 2").rule(2, "a m 2");
        check.mail("to:a1\n\n");
        Check.due("12: rules that are not met are tried too", "2200", boxes(check));
        Check.due("46: that is no loop", 0, check.post.counted('l'));
    }

    private static void redirects() {
        Check check = new Check().people("a1", "b2", "c3").scripts(3).rule(0, "a r 1").rule(1, "a r 2");
        PostSieve post = check.post;
        post.setScript(0, 0);
        check.mail("to:a1\n\n");
        Check.due("46: delivered twice", 2, post.counted('d'));
        Check.due("12: not kept here", 0, post.items(0, 0));
        Check.due("12: kept there", 1, post.items(1, 0));
        post.setScript(1, 1);
        check.mail("to:a1\n\n");
        Check.due("12: over two people", 1, post.items(2, 0));
        check.rule(0, "a k 3");
        check.mail("to:a1,c3\n\n");
        Check.due("12: redirected and kept", "1:2", check.box(0, 3));
        Check.due("12: a copy of its own, and one redirected", "1:1 2:2 3:2", check.box(2, 0));
        Check order = new Check().people("a1", "b2").scripts(2).rule(0, "a r 1").rule(1, "a k 1");
        order.post.setScript(0, 0);
        order.post.setScript(1, 1);
        order.post.setQuota(1, 14);
        order.mail("to:b2\n\n");
        order.mail("to:a1\n\n");
        order.mail("to:a1\n\n");
        Check.due("5: the quota of who gets it", "1:0 2:1", order.box(1, 1));
        Check.due("46: refused there", 1, order.post.counted('f'));
        Check turns = new Check().people("a1", "b2", "c3").scripts(2).rule(0, "a r 2").rule(1, "a r 2").rule(1, "a k 1");
        turns.post.setScript(0, 0);
        turns.post.setScript(1, 1);
        turns.post.setHoliday(2, 0, 9, 1);
        turns.mail("from:z9\nto:b2,a1,c3\n\n");
        Check.due("8: all to addresses and then what was redirected", 5, turns.post.counted('d'));
        Check.due("8: three copies", "1:0 2:0 3:0", turns.box(2, 0));
    }

    private static void circles() {
        Check self = delivered("a r 0");
        Check.due("46: to oneself", 1, self.post.counted('c'));
        Check.due("12: it is not done", 1, self.post.items(0, 0));
        Check check = new Check().people("a1", "b2").scripts(2).rule(0, "a r 1").rule(1, "a r 0");
        check.post.setScript(0, 0);
        check.post.setScript(1, 1);
        check.mail("to:a1\n\n");
        Check.due("46: back again", 1, check.post.counted('c'));
        Check.due("46: two deliveries", 2, check.post.counted('d'));
        Check.due("12: kept where it ends", 1, check.post.items(1, 0));
        check.mail("to:a1,b2\n\n");
        Check.due("46: each copy for itself", 3, check.post.counted('c'));
        Check.due("46: four deliveries more", 6, check.post.counted('d'));
        Check lowest = new Check().people("a1", "a0").scripts(1).rule(0, "a r 1");
        lowest.post.setScript(0, 0);
        lowest.mail("to:a1\n\n");
        Check.due("12: to the address a0", 1, lowest.post.items(1, 0));
        lowest.mail("to:a0\n\n");
        Check.due("8: to the address a0", 2, lowest.post.items(1, 0));
        Check none = delivered("a r 3");
        Check.due("46: to no one is no circle", 0, none.post.counted('c'));
        Check twice = new Check().people("a1", "b2").scripts(1).rule(0, "a r 1").rule(0, "a r 1");
        twice.post.setScript(0, 0);
        twice.mail("to:a1\n\n");
        Check.due("46: twice to one is no circle", 0, twice.post.counted('c'));
        Check.due("46: and two copies", 3, twice.post.counted('d'));
    }

    private static void thirtyDeliveries() {
        Check check = new Check().people("a1", "b2", "c3").scripts(2);
        for (int left = 6; left > 0; left--) {
            check.rule(0, "a r 1");
            check.rule(1, "a r 2");
        }
        check.post.setScript(0, 0);
        check.post.setScript(1, 1);
        check.mail("to:a1\n\n");
        Check.due("46: thirty deliveries", 30, check.post.counted('d'));
        Check.due("46: thirteen redirections are left out", 13, check.post.counted('c'));
        Check.due("12: the last ones are kept", 2, check.post.items(1, 0));
        Check.due("12: the others went on", 23, check.post.items(2, 0));
        check.mail("to:c3\n\n");
        Check.due("46: the next message begins anew", 31, check.post.counted('d'));
        Check.due("8: and is kept", 24, check.post.items(2, 0));
    }

    private static void counts() {
        PostSieve post = new PostSieve();
        for (char what : new char[] {'k', 'r', 'A', 0, 65535}) {
            Check.thrown("46: no such thing", Check.ARGUMENT, () -> post.counted(what));
        }
    }
}

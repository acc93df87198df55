import java.math.BigInteger;

/** The limits that "Terms" names: the last that counts, and the first that does not. */
public final class LimitsTest {
    private static final String SIXTY = "123456789.".repeat(6);

    public static void main(String[] args) {
        sixtySigns();
        sixtySignsOfLists();
        sixtySignsElsewhere();
        fourAddresses();
        sixDigits();
        sixRefs();
        twentyParts();
        depthSix();
        quotas();
        thirtyDeliveries();
        sixtyRules();
        sixScripts();
        twentySigns();
        lengths();
        holidays();
        fiveSessions();
        twentyMessages();
        sealsGoRound();
        Check.end("LimitsTest");
    }

    private static void sixtySigns() {
        for (int length = 58; length <= 62; length++) {
            Check check = new Check();
            check.mail("subject:" + "x".repeat(length) + "\n\n");
            int due = length < 60 ? length : 60;
            Check.due("20: of " + length + " signs", due, check.post.subject(0));
            Check.due("21: the last of " + length + " signs", 'x', check.post.subjectAt(0, due - 1));
            Check.thrown("21: behind the last of " + length, Check.NONE_SUCH, () -> check.post.subjectAt(0, due));
        }
        Check.due("21: the longest", "y".repeat(60), Check.subject("y".repeat(1990)));
        String but1 = SIXTY.substring(1);
        Check.due("21: the sixtieth sign is coded", but1 + "A", Check.subject(but1 + "=?q?=41=42?="));
        Check.due("21: the sixty-first sign is coded", SIXTY, Check.subject(SIXTY + "=?q?=41=42?="));
        Check.due("21: a coded word is more than sixty", SIXTY, Check.subject("=?q?" + SIXTY + "x?= =?q?y?="));
        Check.due("21: sixty behind coded words", "A".repeat(60), Check.subject("=?q?=41?= ".repeat(61)));
        Check.due("21: the sixtieth is a blank", but1 + " ", Check.subject(but1 + " x"));
        Check.due("21: comments and blanks do not count", SIXTY, Check.subject("(" + SIXTY + ") \t" + SIXTY));
    }

    /** Whether a rule with this test is met. */
    private static boolean isMet(String rule, String head) {
        Check check = new Check().people("a1").scripts(1).rule(0, rule);
        check.post.setScript(0, 0);
        check.mail("to:a1\n" + head + "\n\n");
        return check.post.items(0, 1) == 1;
    }

    private static void sixtySignsOfLists() {
        String but1 = SIXTY.substring(1);
        Check.due("12: the sixtieth of a list", true, isMet("i k 1 *x", "list:" + but1 + "x"));
        Check.due("12: the sixtieth of a list, and more", true, isMet("i k 1 *x", "list:" + but1 + "xy"));
        Check.due("12: the sixty-first of a list", false, isMet("i k 1 *x", "list:" + SIXTY + "x"));
        Check.due("12: the sixty-first is left out", true, isMet("i k 1 *.", "list:" + SIXTY + "x"));
        Check.due("12: the sixtieth of a subject", true, isMet("s k 1 *x", "subject:" + but1 + "xy"));
        Check.due("12: the sixty-first of a subject", false, isMet("s k 1 *x", "subject:" + SIXTY + "x"));
    }

    private static void sixtySignsElsewhere() {
        Check check = new Check().people("a1");
        check.mail("to:a1\nsubject:" + ".".repeat(48) + "123456789012345\n\n");
        check.post.open(0, 0, 0);
        check.word("123456789012");
        Check.due("42: a word up to the sixtieth sign", 1, check.post.find(0, 's', 0));
        check.word("234567890123");
        Check.due("42: a word up to the sixty-first sign", 0, check.post.find(0, 's', 0));
        String base = "x".repeat(52);
        for (int blanks = 0; blanks < 2; blanks++) {
            Check bases = new Check();
            bases.mail("id:1\nsubject:" + base + "\n\n");
            bases.mail("id:2\nsubject:re:" + "=?q?" + "_".repeat(blanks) + "?=" + base + "=?q?=28fwd=29?=\n\n");
            Check.due("43: \"(fwd)\" up to the sign " + (60 + blanks), blanks == 0 ? 1 : 2, bases.post.thread(1));
        }
        Check seals = new Check();
        seals.mail("subject:" + SIXTY + "x\n\n");
        seals.mail("subject:" + SIXTY + "y\n\n");
        Check.due("24: all of the value counts", 1, seals.post.seal(1) - seals.post.seal(0) == 31 ? 1 : 0);
    }

    private static void fourAddresses() {
        Check check = new Check().people("d4", "e5").scripts(1).rule(0, "t k 1 e5").rule(0, "t k 2 d4");
        check.post.setScript(0, 0);
        check.mail("to:a1,b2,c3,d4,e5\n\n");
        Check.due("22: the fourth", 34, check.post.address(0, 4));
        Check.thrown("22: the fifth", Check.NONE_SUCH, () -> check.post.address(0, 5));
        Check.due("8: delivered to the fourth", "1:0", check.box(0, 2));
        Check.due("8: not to the fifth", 1, check.post.counted('d'));
        Check.due("12: the fifth is not looked at", "", check.box(0, 1));
        check.mail("to:e5,a1,a1,e5,a1,b2,b2,d4,c3\n\n");
        Check.due("22: those that were there do not count", 34, check.post.address(1, 4));
        Check.due("8: delivered to both", 3, check.post.counted('d'));
        Check.due("12: both are looked at", "1:1", check.box(0, 1));
    }

    private static int idOf(String value) {
        Check check = new Check();
        check.mail("id:" + value + "\n\n");
        return check.post.idOf(0);
    }

    private static void sixDigits() {
        Check.due("23: one digit", 9, idOf("9"));
        Check.due("23: five digits", 99999, idOf("99999"));
        Check.due("23: six digits", 999999, idOf("999999"));
        Check.due("23: seven digits", 100000, idOf("1000000"));
        Check.due("23: zeros are digits", 1, idOf("0000012"));
        Check.due("23: very many digits", 987654, idOf("9876543210".repeat(150)));
        for (String ref : new String[] {"123456", "1234567", "123456000000", "123456 7"}) {
            Check check = new Check();
            check.mail("id:123456\n\n");
            check.mail("id:2\nrefs:" + ref + "\n\n");
            Check.due("44: the ref " + ref, 123456, check.post.above(1));
        }
        Check rest = new Check();
        rest.mail("id:7\n\n");
        rest.mail("id:2\nrefs:1234567\n\n");
        Check.thrown("44: the seventh digit is no ref", Check.NONE_SUCH, () -> rest.post.above(1));
    }

    private static void sixRefs() {
        for (int ahead = 4; ahead <= 6; ahead++) {
            Check check = new Check();
            check.mail("id:1\n\n");
            check.mail("id:2\n\n");
            check.mail("id:3\nrefs:" + "1 ".repeat(ahead) + "2\n\n");
            Check.due("44: the last of " + (ahead + 1) + " refs", ahead < 6 ? 2 : 1, check.post.above(2));
        }
        Check check = new Check();
        check.mail("id:1\n\n");
        check.mail("id:3\nrefs:9 9 9 9 9 9 1\n\n");
        Check.thrown("44: the seventh alone is there", Check.NONE_SUCH, () -> check.post.above(1));
        check.mail("id:4\nrefs:9\n\n");
        Check.due("43: so it belongs by its first ref", 3, check.post.thread(2));
    }

    private static void twentyParts() {
        for (int parts = 18; parts <= 22; parts++) {
            Check check = new Check();
            check.mail("type:multi;b=x\n\n" + "--x\n\nab\n".repeat(parts - 1) + "--x--");
            int due = parts < 20 ? parts : 20;
            Check.due("15: of " + parts + " parts", due, check.post.parts(0));
            Check.due("18: the last of " + parts, 2, check.post.bytes(0, due - 1));
            Check.thrown("16: behind the last of " + parts, Check.INDEX, () -> check.post.typeOf(0, due));
            Check.due("25: of " + parts, true, check.post.isSame(0));
            Check.due("48: of " + parts, (double) due, check.post.meanParts());
        }
        Check inner = new Check();
        String within = "type:multi;b=y\n\n" + "--y\n\n\n".repeat(30) + "--y--\n";
        inner.mail("type:multi;b=x\n\n--x\n" + within + "--x\n\nlast\n--x--");
        Check.due("15: inner parts take all", 20, inner.post.parts(0));
        Check.due("17: the last one is an inner one", 1, inner.post.parentOf(0, 19));
        Check wraps = new Check();
        wraps.mail("type:multi;b=x\n\n" + "--x\n\nab\n".repeat(18) + "--x\ntype:wrap\n\n\nin\n--x--");
        Check.due("15: the part of the twentieth is left out", 20, wraps.post.parts(0));
        Check.due("16: the twentieth is a wrap", 'w', wraps.post.typeOf(0, 19));
        Check.due("25: with a wrap that has no part", true, wraps.post.isSame(0));
        Check multis = new Check();
        multis.mail("type:multi;b=x\n\n" + "--x\n\nab\n".repeat(18) + "--x\ntype:multi;b=y\n\n--y\n\nin\n--x--");
        Check.due("16: the twentieth is a multi", 'm', multis.post.typeOf(0, 19));
        Check.due("25: with a multi that has no part", true, multis.post.isSame(0));
    }

    private static void depthSix() {
        for (int depth = 5; depth <= 8; depth++) {
            StringBuilder wraps = new StringBuilder();
            StringBuilder multis = new StringBuilder();
            for (int left = depth; left > 0; left--) {
                wraps.append("type:wrap\n\n");
                multis.append("type:multi;b=").append(left).append("\n\n--").append(left).append('\n');
            }
            Check check = new Check();
            check.mail(wraps + "\nx");
            check.mail(multis + "\nx");
            int parts = depth < 6 ? depth + 1 : 7;
            for (int message = 0; message < 2; message++) {
                String of = " of " + depth + " within one another, message " + message;
                Check.due("15: the parts" + of, parts, check.post.parts(message));
                Check.due("16: the sixth at most is none of text" + of, message == 0 ? 'w' : 'm',
                        check.post.typeOf(message, depth < 6 ? depth - 1 : 5));
                Check.due("16: the last is text" + of, 't', check.post.typeOf(message, parts - 1));
                Check.due("17: the last is in the one ahead" + of, parts - 2, check.post.parentOf(message, parts - 1));
                Check.due("25: isSame" + of, true, check.post.isSame(message));
            }
            String last = "\nx".substring(depth < 7 ? 1 : 0);
            Check.due("18: the last one as it stands", depth == 8 ? "type:wrap\n\n\nx" : last, check.text(0, parts - 1));
        }
    }

    private static void quotas() {
        for (int quota = 29; quota <= 31; quota++) {
            Check check = new Check().people("a1");
            check.post.setQuota(0, quota);
            check.mail("to:a1\n\nxxx");
            check.mail("to:a1\n\n" + "x".repeat(13));
            Check.due("5: 30 of " + quota, quota < 30 ? 1 : 2, check.post.items(0, 0));
            Check.due("28: 30 of " + quota, quota < 30 ? 10 : 30, check.post.room(0));
            Check.due("46: 30 of " + quota, quota < 30 ? 1 : 0, check.post.counted('f'));
            Check.due("29: what is refused gives no mark", quota < 30 ? 1 : 2, check.post.mark(0, 0));
        }
        Check check = new Check().people("a1");
        check.mail("to:a1\n\nxxx");
        check.post.setQuota(0, 9);
        Check.due("5: what is there stays", 10, check.post.room(0));
        check.mail("to:a1\n\n");
        Check.due("46: nothing more comes", 1, check.post.counted('f'));
        check.post.setQuota(0, 17);
        check.mail("to:a1\n\n");
        Check.due("5: just enough", 17, check.post.room(0));
        check.post.open(0, 0, 0);
        check.post.remove(0, 0);
        check.mail("to:a1\n\nxxx");
        Check.due("5: just enough again", 17, check.post.room(0));
        Check.due("46: nothing else was refused", 1, check.post.counted('f'));
        Check great = new Check().people("a1");
        great.post.setQuota(0, 2000);
        great.mail("to:a1\n\n" + "x".repeat(1993));
        Check.due("28: the longest message", 2000, great.post.room(0));
    }

    /** How often there was a delivery and a circle if a1 redirects so often to b2, and b2 to c3. */
    private static String delivered(int first, int second, String to) {
        Check check = new Check().people("a1", "b2", "c3").scripts(2);
        for (int left = first; left > 0; left--) {
            check.rule(0, "a r 1");
        }
        for (int left = second; left > 0; left--) {
            check.rule(1, "a r 2");
        }
        check.post.setScript(0, 0);
        check.post.setScript(1, 1);
        check.mail("to:" + to + "\n\n");
        return check.post.counted('d') + " " + check.post.counted('c') + " " + check.post.items(1, 0);
    }

    private static void thirtyDeliveries() {
        Check.due("46: twenty-nine", "29 0 0", delivered(4, 6, "a1"));
        Check.due("46: thirty", "30 0 0", delivered(4, 6, "a1,c3"));
        Check.due("46: the thirty-first", "30 1 0", delivered(5, 5, "a1"));
        Check.due("46: the thirty-second too", "30 2 0", delivered(5, 5, "a1,c3"));
        Check.due("46: and those of the next ones", "30 8 1", delivered(6, 5, "a1,c3"));
    }

    /** Which boxes have an item, if script 1 has 18 rules and the last rules of the script 0 are these. */
    private static String tried(String... last) {
        Check check = new Check().people("a1").scripts(4);
        for (int left = 3; left > 0; left--) {
            check.rule(0, "a n 1");
            check.rule(1, "a n 2").rule(1, "a m 0");
        }
        check.rule(2, "!a m 0").rule(2, "a m 0").rule(2, "s m 0 x").rule(2, "a m 0");
        for (String rule : last) {
            check.rule(0, rule);
        }
        check.rule(3, "a k 1").rule(3, "a k 2");
        check.post.setScript(0, 0);
        check.mail("to:a1\n\n");
        Check.due("46: no loop", 0, check.post.counted('l'));
        StringBuilder boxes = new StringBuilder();
        for (int box = 0; box < 4; box++) {
            boxes.append(check.post.items(0, box));
        }
        return boxes.toString();
    }

    private static void sixtyRules() {
        Check.due("12: the fifty-ninth and the sixtieth", "0110", tried("a m 0", "a k 1", "a k 2"));
        Check.due("12: the sixtieth alone", "0100", tried("a m 0", "a m 0", "a k 1"));
        Check.due("12: the fifty-ninth and the sixtieth of another script", "0110", tried("a n 3"));
        Check.due("12: the sixtieth, and not the sixty-first", "0100", tried("a m 0", "a n 3"));
        Check.due("12: the sixty-first", "1000", tried("a m 0", "a m 0", "a n 3"));
        Check.due("12: the sixty-first ends all scripts", "0100", tried("a k 1", "a m 0", "a n 3"));
    }

    private static void sixScripts() {
        Check check = new Check().people("a1").scripts(6);
        for (int script = 0; script < 5; script++) {
            check.rule(script, "a n " + (script + 1));
        }
        check.rule(5, "a k 3");
        check.post.setScript(0, 0);
        check.mail("to:a1\n\n");
        Check.due("12: six scripts within one another", "1:0", check.box(0, 3));
        check.rule(5, "a n 0");
        check.mail("to:a1\n\n");
        Check.due("46: the sixth includes the first", 1, check.post.counted('l'));
        Check.due("12: kept, and kept in the box 0", "1:1", check.box(0, 0));
        check.post.setScript(0, 5);
        check.mail("to:a1\n\n");
        Check.due("46: another one begins", 2, check.post.counted('l'));
    }

    private static void twentySigns() {
        String twenty = "abcdefghij".repeat(2);
        for (int length = 19; length <= 22; length++) {
            String text = (twenty + "+x").substring(0, length);
            String[] rules = {"s m 0 *", "i k 1 $"};
            Check check = new Check().people("a1").scripts(1).rule(0, rules[0]).rule(0, rules[1]);
            check.post.setScript(0, 0);
            check.mail("to:a1\nsubject:" + text + "\nlist:" + text + "\n\n");
            Check.due("12: '$' of " + length + " signs", length <= 20 ? 1 : 0, check.post.items(0, 1));
        }
        for (int times = 2; times <= 4; times++) {
            Check check = new Check().people("a1").scripts(1).rule(0, "s m 0 *");
            check.rule(0, "i k 1 " + "$".repeat(times)).rule(0, "i k 2 $$$");
            check.post.setScript(0, 0);
            check.mail("to:a1\nsubject:" + twenty + "\nlist:" + twenty.repeat(times) + "\n\n");
            Check.due("12: " + times + " times 20 signs, of 60", times <= 3 ? 1 : 0, check.post.items(0, 1));
            // A pattern that matched without '*' leaves nothing for '$'.
            Check.due("12: then 3 times, of " + times, times == 4 ? 1 : 0, check.post.items(0, 2));
        }
        Check check = new Check().people("a1").scripts(1).rule(0, "s m 0 *").rule(0, "i k 1 $$$$$$$$$$$$");
        check.post.setScript(0, 0);
        check.mail("to:a1\nsubject:12345\nlist:" + "12345".repeat(12) + "\n\n");
        Check.due("12: twelve times five signs", 1, check.post.items(0, 1));
        check.mail("to:a1\nsubject:" + twenty + "\nlist:" + twenty.repeat(3) + "\n\n");
        Check.due("12: twelve times twenty signs are more than sixty", 1, check.post.items(0, 1));
    }

    private static void lengths() {
        for (int signs = 0; signs <= 12; signs++) {
            for (int length = 10 * signs; length <= 10 * signs + 1; length++) {
                if (length >= 7) {
                    String rule = "z k 1 " + "*?$x*?$x*?$x".substring(0, signs);
                    Check check = new Check().people("a1").scripts(1).rule(0, rule);
                    check.post.setScript(0, 0);
                    check.mail("to:a1\n\n" + "x".repeat(length - 7));
                    Check.due("12: 'z' of " + signs + " signs and the length " + length, length - 10 * signs,
                            check.post.items(0, 1));
                }
            }
        }
        Check check = new Check().people("a1");
        check.mail("to:a1\n\n" + "x".repeat(1993));
        check.post.open(0, 0, 0);
        int[][] asked = {{1998, 1}, {1999, 1}, {2000, 0}, {2001, 0}};
        for (int[] length : asked) {
            Check.due("42: longer than " + length[0], length[1], check.post.find(0, 'z', length[0]));
        }
    }

    /** How many answers there were on the days 0 to 9, if a mail came on each. */
    private static String answers(int from, int to, int days) {
        Check check = new Check().people("a1");
        check.post.setHoliday(0, from, to, days);
        StringBuilder answers = new StringBuilder();
        for (int day = 0; day < 10; day++) {
            int ahead = check.post.counted('a');
            check.mail("from:b2\nto:a1\n\n");
            answers.append(check.post.counted('a') - ahead);
            check.post.pass(1);
        }
        return answers.toString();
    }

    private static void holidays() {
        Check.due("6: each day", "1111111111", answers(0, 9, 1));
        Check.due("6: each second day", "1010101010", answers(0, 9, 2));
        Check.due("6: each third day", "1001001001", answers(0, 9, 3));
        Check.due("6: nine days", "1000000001", answers(0, 9, 9));
        Check.due("6: ten days", "1000000000", answers(0, 9, 10));
        Check.due("6: the first day and the last one", "0011110000", answers(2, 5, 1));
        Check.due("6: one day", "0001000000", answers(3, 3, 1));
        Check.due("6: the last day ahead of the first one", "0000000000", answers(4, 3, 1));
        Check.due("6: the day 0 alone", "1000000000", answers(-9, 0, 1));
        Check.due("6: days ahead of the day 0", "0000000000", answers(-9, -1, 1));
        Check.due("6: all days", "1111111111", answers(Integer.MIN_VALUE, Integer.MAX_VALUE, 1));
        Check.due("6: the last of all days", "0000000000", answers(Integer.MAX_VALUE, Integer.MAX_VALUE, 1));
        Check.due("6: the other way round", "0000000000", answers(Integer.MAX_VALUE, Integer.MIN_VALUE, 1));
        Check check = new Check().people("a1");
        check.post.setHoliday(0, 0, Integer.MAX_VALUE, 99);
        check.mail("from:b2\nto:a1\n\n");
        check.post.pass(98);
        check.mail("from:b2\nto:a1\n\n");
        Check.due("6: the ninety-eighth day", 1, check.post.counted('a'));
        check.post.pass(1);
        check.mail("from:b2\nto:a1\n\n");
        Check.due("6: the ninety-ninth day", 2, check.post.counted('a'));
    }

    private static void fiveSessions() {
        Check check = new Check().people("a1");
        for (int session = 0; session < 5; session++) {
            Check.due("33: the session " + session, session, check.post.open(0, 0, session % 4));
            check.post.close(session);
        }
        Check.thrown("33: a sixth one, though all are closed", Check.STATE, () -> check.post.open(0, 0, 0));
    }

    private static void twentyMessages() {
        Check check = new Check().people("a1");
        for (int message = 0; message < 20; message++) {
            check.mail("to:a1\nid:" + (40 - message) + (message == 0 ? "" : "\nrefs:" + (41 - message)) + "\n\n");
        }
        check.post.open(0, 0, 0);
        Check.due("35: twenty items", 20, check.post.sees(0));
        Check.due("45: one chain", 1, check.post.threads());
        Check.due("43: its lowest id", 21, check.post.thread(0));
        Check.due("44: the last one", 22, check.post.above(19));
        Check.due("42: all are in it", 20, check.post.find(0, 't', 19));
        Check.due("42: no twenty-first one", 0, check.post.find(0, 't', 20));
        Check apart = new Check();
        for (int message = 0; message < 20; message++) {
            apart.mail("id:" + message + "\n\n");
            Check.due("45: each for itself", message + 1, apart.post.threads());
        }
        Check ring = new Check();
        for (int message = 0; message < 20; message++) {
            ring.mail("id:" + message + "\nrefs:" + (message + 1) % 20 + "\n\n");
        }
        Check.due("44: the last of a ring has none", 1, ring.post.threads());
        Check.thrown("44: the last of a ring has none", Check.NONE_SUCH, () -> ring.post.above(19));
        Check.due("44: all others have one", 19, ring.post.above(18));
    }

    private static void sealsGoRound() {
        for (int sign : new int[] {1, 127, 128, 255}) {
            BigInteger seal = BigInteger.valueOf(17);
            StringBuilder body = new StringBuilder("\n");
            Check check = new Check();
            for (int length = 1; length <= 20; length++) {
                body.append((char) sign);
                seal = seal.multiply(BigInteger.valueOf(31)).add(BigInteger.valueOf(sign));
                int message = check.mail(body.toString());
                String what = "24: " + length + " bytes " + sign;
                Check.due(what, seal.intValue(), check.post.seal(message));
                Check.due(what + ", gone round", length > 5, seal.bitLength() > 31);
            }
        }
        Check check = new Check();
        check.mail("\n" + "\u00ff".repeat(1999));
        BigInteger seal = BigInteger.valueOf(17);
        for (int left = 1999; left > 0; left--) {
            seal = seal.multiply(BigInteger.valueOf(31)).add(BigInteger.valueOf(255));
        }
        Check.due("24: the longest body", seal.intValue(), check.post.seal(0));
    }
}

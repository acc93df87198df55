/**
 * For each promise what is refused and what is just not refused: what a call throws, which exception comes first if
 * several apply, and that a refused call changes nothing, nor does one that only asks.
 */
public final class RefusedTest {
    private static final Twins NEW = new Twins(Check::new);
    private static final Twins SOME = new Twins(RefusedTest::some);
    private static final Twins FULL = new Twins(() -> full(20));
    private static final String LEFT = "from:c3\nto:a1,b2,c3\nsubject:re: hi\nid:9\nrefs:8\n\nleft";

    public static void main(String[] args) {
        feeds();
        cuts();
        addsPeople();
        quotas();
        holidays();
        passes();
        sends();
        words();
        addsScripts();
        addsRules();
        scripts();
        messages();
        parts();
        heads();
        boxes();
        grants();
        opens();
        noSessions();
        places();
        flags();
        removes();
        finds();
        threads();
        counts();
        Check.end("RefusedTest");
    }

    /** 3 people, 3 scripts, 4 messages, 4 sessions (2 is closed), an item that is gone, a tape and a word. */
    private static Check some() {
        Check check = new Check().people("a1", "b2", "c3").scripts(3);
        check.rule(0, "s k 1 re:*").rule(0, "f m 4 b2").rule(0, "a n 1").rule(1, "z r 2 ab").rule(1, "a k 0");
        PostSieve post = check.post;
        post.setScript(0, 0);
        post.setQuota(1, 300);
        post.setHoliday(0, 2, 50, 3);
        post.pass(4);
        check.mail("from:b2\nto:a1,b2\nsubject:re: hi\nid:5\nrefs:3\n\nhello");
        check.mail("to:a1\nid:7\ntype:multi;b=x\n\n--x\n\nABC\n--x\ntype:wrap\n\n\n--x--");
        check.mail("to:a1,b2\nid:8\nrefs:7\n\n");
        check.mail("from:a0\nto:a1\n\n");
        post.grant(0, 0, 1, 1);
        post.grant(0, 0, 2, 3);
        post.open(0, 0, 0);
        post.open(1, 0, 0);
        post.open(0, 0, 1);
        post.open(2, 0, 0);
        post.close(2);
        post.setFlags(0, 0, 5);
        post.remove(0, 1);
        check.tape(LEFT);
        return check.word("hi");
    }

    /** As much as there can be of all, but for the messages. */
    private static Check full(int messages) {
        Check check = new Check().people("a1", "b2", "c3", "z9").scripts(6);
        for (int left = 6; left > 0; left--) {
            check.rule(0, "a m 1");
        }
        check.post.setScript(0, 0);
        for (int message = 0; message < messages; message++) {
            check.mail("to:a1\nid:1\n\n");
        }
        for (int session = 0; session < 5; session++) {
            check.post.open(0, 0, session % 4);
        }
        check.post.close(4);
        check.tape("x".repeat(2000));
        return check.word("123456789012");
    }

    private static void feeds() {
        FULL.refused("2: 2000 bytes, and more", Check.NOT_SUPPORTED, post -> post.feed(1, 2, 3, 4, 5));
        Twins long1981 = new Twins(() -> taped(1981));
        long1981.refused("2: 1981 bytes, and 20 more", Check.NOT_SUPPORTED, post -> post.feed(0, 0, 0, 0, 0));
        Twins long1980 = new Twins(() -> taped(1980));
        long1980.answered("2: 1980 bytes, and 20 more", 2000, post -> post.feed(-1, -1, -1, -1, -1));
        NEW.answered("2: none, and 20 more", 20, post -> post.feed(0, 0, 0, 0, 0));
    }

    private static Check taped(int length) {
        Check check = new Check();
        check.tape("y".repeat(length));
        return check;
    }

    private static void cuts() {
        for (int length : Twins.outside(1)) {
            NEW.refused("3: an empty tape to " + length, Check.ARGUMENT, post -> post.cut(length));
        }
        for (int length : Twins.outside(LEFT.length() + 1)) {
            SOME.refused("3: to " + length, Check.ARGUMENT, post -> post.cut(length));
        }
        for (int length : Twins.outside(2001)) {
            FULL.refused("3: a full tape to " + length, Check.ARGUMENT, post -> post.cut(length));
        }
        NEW.answered("3: an empty tape to nothing", 0, post -> post.cut(0));
        SOME.answered("3: to nothing", LEFT.length(), post -> post.cut(0));
        SOME.answered("3: to what it has", 0, post -> post.cut(LEFT.length()));
        SOME.answered("3: by one", 1, post -> post.cut(LEFT.length() - 1));
        FULL.answered("3: a full tape to what it has", 0, post -> post.cut(2000));
        FULL.answered("3: a full tape to nothing", 2000, post -> post.cut(0));
    }

    private static void addsPeople() {
        for (char other : otherSigns("abcdefghijklmnopqrstuvwxyz")) {
            SOME.refused("4: the letter " + (int) other, Check.ARGUMENT, post -> post.addPerson(other, 5));
        }
        for (int digit : Twins.outside(10)) {
            SOME.refused("4: the digit " + digit, Check.ARGUMENT, post -> post.addPerson('a', digit));
            FULL.refused("4: of 4 people, the digit " + digit, Check.ARGUMENT, post -> post.addPerson('a', digit));
        }
        SOME.refused("4: the first address", Check.NOT_SUPPORTED, post -> post.addPerson('a', 1));
        SOME.refused("4: the last address", Check.NOT_SUPPORTED, post -> post.addPerson('c', 3));
        FULL.refused("4: there are 4", Check.STATE, post -> post.addPerson('b', 1));
        FULL.refused("4: there are 4, and the address", Check.NOT_SUPPORTED, post -> post.addPerson('z', 9));
        FULL.refused("4: there are 4, and no address", Check.ARGUMENT, post -> post.addPerson('{', 9));
        NEW.answered("4: the first one", 0, post -> post.addPerson('z', 0));
        for (char letter = 'a'; letter <= 'z'; letter++) {
            char added = letter;
            SOME.answered("4: the fourth one, " + letter, 3, post -> post.addPerson(added, 9));
        }
        for (int digit = 0; digit < 10; digit++) {
            int added = digit;
            SOME.answered("4: the fourth one with the digit " + digit, 3, post -> post.addPerson('d', added));
        }
        SOME.answered("4: the letter of another one", 3, post -> post.addPerson('a', 2));
        SOME.answered("4: the digit of another one", 3, post -> post.addPerson('d', 1));
    }

    /** Signs that are none of these, from 0 to 400 and the last one there is. */
    private static char[] otherSigns(String signs) {
        StringBuilder others = new StringBuilder();
        for (char sign = 0; sign <= 400; sign++) {
            others.append(signs.indexOf(sign) < 0 ? String.valueOf(sign) : "");
        }
        return others.append((char) 65535).toString().toCharArray();
    }

    private static void quotas() {
        for (int person : Twins.outside(3)) {
            SOME.refused("5: no person " + person, Check.INDEX, post -> post.setQuota(person, 5));
            SOME.refused("5: no person and no quota " + person, Check.INDEX, post -> post.setQuota(person, -2));
        }
        NEW.refused("5: no one", Check.INDEX, post -> post.setQuota(0, 5));
        FULL.refused("5: a fifth one", Check.INDEX, post -> post.setQuota(4, 5));
        for (int quota : new int[] {Integer.MIN_VALUE, -2, 100000, Integer.MAX_VALUE}) {
            SOME.refused("5: the quota " + quota, Check.ARGUMENT, post -> post.setQuota(1, quota));
        }
        for (int quota : new int[] {-1, 0, 1, 99998, 99999}) {
            SOME.answered("5: the quota " + quota, 300, post -> post.setQuota(1, quota));
        }
        SOME.answered("5: of the first person", -1, post -> post.setQuota(0, 0));
        SOME.answered("5: of the last person", -1, post -> post.setQuota(2, 0));
        FULL.answered("5: of the fourth person", -1, post -> post.setQuota(3, 0));
    }

    private static void holidays() {
        for (int person : Twins.outside(3)) {
            SOME.refused("6: no person " + person, Check.INDEX, post -> post.setHoliday(person, 0, 9, 1));
            SOME.refused("6: no person and no days " + person, Check.INDEX, post -> post.setHoliday(person, 0, 9, 0));
        }
        NEW.refused("6: no one", Check.INDEX, post -> post.setHoliday(0, 0, 9, 1));
        FULL.refused("6: a fifth one", Check.INDEX, post -> post.setHoliday(4, 0, 9, 1));
        for (int days : new int[] {Integer.MIN_VALUE, -1, 0, 100, Integer.MAX_VALUE}) {
            SOME.refused("6: days " + days, Check.ARGUMENT, post -> post.setHoliday(0, 0, 9, days));
        }
        SOME.answered("6: 1 day", 2, post -> post.setHoliday(0, 0, 9, 1));
        SOME.answered("6: 99 days", 2, post -> post.setHoliday(0, 0, 9, 99));
        SOME.answered("6: the last day ahead of the first one", 2, post -> post.setHoliday(0, 9, 0, 1));
        SOME.answered("6: days without end", 0,
                post -> post.setHoliday(2, Integer.MIN_VALUE, Integer.MAX_VALUE, 1));
        SOME.answered("6: no days at all", 0, post -> post.setHoliday(2, Integer.MAX_VALUE, Integer.MIN_VALUE, 1));
    }

    private static void passes() {
        for (int days : new int[] {Integer.MIN_VALUE, -1, 0, 100, Integer.MAX_VALUE}) {
            SOME.refused("7: days " + days, Check.ARGUMENT, post -> post.pass(days));
            NEW.refused("7: at first, days " + days, Check.ARGUMENT, post -> post.pass(days));
        }
        NEW.answered("7: 1 day", 1, post -> post.pass(1));
        NEW.answered("7: 99 days", 99, post -> post.pass(99));
        SOME.answered("7: 1 day more", 5, post -> post.pass(1));
        SOME.answered("7: 99 days more", 103, post -> post.pass(99));
    }

    private static void sends() {
        FULL.refused("8: there are 20 messages", Check.STATE, post -> post.send());
        Twins but1 = new Twins(() -> full(19));
        but1.answered("8: the twentieth", 19, post -> post.send());
        NEW.answered("8: the first", 0, post -> post.send());
    }

    private static void words() {
        StringBuilder signs = new StringBuilder();
        for (char sign = 32; sign <= 126; sign++) {
            char typed = sign;
            SOME.answered("9: the sign " + (int) sign, 3, post -> post.word(typed));
            FULL.refused("9: 12 signs, and " + (int) sign, Check.STATE, post -> post.word(typed));
            signs.append(sign);
        }
        for (char other : otherSigns(signs.toString())) {
            SOME.refused("9: the sign " + (int) other, Check.ARGUMENT, post -> post.word(other));
            FULL.refused("9: 12 signs, and the sign " + (int) other, Check.ARGUMENT, post -> post.word(other));
        }
        Twins eleven = new Twins(() -> new Check().word("12345678901"));
        eleven.answered("9: the twelfth sign", 12, post -> post.word('2'));
        NEW.answered("10: an empty word", 0, post -> post.clear());
        SOME.answered("10: a word", 2, post -> post.clear());
        FULL.answered("10: a full word", 12, post -> post.clear());
    }

    private static void addsScripts() {
        FULL.refused("11: there are 6 scripts", Check.STATE, post -> post.addScript());
        Twins five = new Twins(() -> new Check().scripts(5));
        five.answered("11: the sixth one", 5, post -> post.addScript());
        NEW.answered("11: the first one", 0, post -> post.addScript());
    }

    private static void addsRules() {
        for (int script : Twins.outside(3)) {
            String of = " and the script " + script;
            SOME.refused("12: a rule" + of, Check.INDEX, post -> post.addRule(script, 'a', false, 'd', 0));
            SOME.refused("12: no test" + of, Check.INDEX, post -> post.addRule(script, 'b', false, 'd', 0));
            SOME.refused("12: no action" + of, Check.INDEX, post -> post.addRule(script, 'a', false, 'b', 0));
            SOME.refused("12: no box" + of, Check.INDEX, post -> post.addRule(script, 'a', false, 'k', 4));
        }
        NEW.refused("12: no script at all", Check.INDEX, post -> post.addRule(0, 'a', false, 'd', 0));
        FULL.refused("12: a seventh script", Check.INDEX, post -> post.addRule(6, 'a', false, 'd', 0));
        for (char other : otherSigns("fsitza")) {
            SOME.refused("12: the test " + (int) other, Check.ARGUMENT, post -> post.addRule(0, other, true, 'd', 0));
        }
        for (char other : otherSigns("krdmxn")) {
            SOME.refused("12: the action " + (int) other, Check.ARGUMENT, post -> post.addRule(0, 'a', true, other, 0));
        }
        for (char test : "fsitza".toCharArray()) {
            SOME.answered("12: the test " + test, 4, post -> post.addRule(0, test, false, 'd', 0));
        }
        numbersOfRules();
        FULL.refused("12: 6 rules", Check.STATE, post -> post.addRule(0, 'a', false, 'd', 0));
        FULL.refused("12: 6 rules, and no test", Check.ARGUMENT, post -> post.addRule(0, 'b', false, 'd', 0));
        FULL.refused("12: 6 rules, and no action", Check.ARGUMENT, post -> post.addRule(0, 'a', false, 'b', 0));
        FULL.refused("12: 6 rules, and no flags", Check.ARGUMENT, post -> post.addRule(0, 'a', false, 'm', 16));
        FULL.answered("12: another script", 1, post -> post.addRule(5, 'a', false, 'd', 0));
        Twins five = new Twins(() -> new Check().scripts(1).rule(0, "a d 0").rule(0, "a d 0").rule(0, "a d 0")
                .rule(0, "a d 0").rule(0, "a d 0"));
        five.answered("12: the sixth rule", 6, post -> post.addRule(0, 'a', false, 'd', 0));
        SOME.answered("12: the first rule of the last script", 1, post -> post.addRule(2, 'a', false, 'd', 0));
    }

    private static void numbersOfRules() {
        for (String told : new String[] {"k4", "r4", "m16", "n6"}) {
            char action = told.charAt(0);
            int count = Integer.parseInt(told.substring(1));
            for (int n : Twins.outside(count)) {
                String what = "12: " + n + " for " + action;
                SOME.refused(what, Check.ARGUMENT, post -> post.addRule(0, 'a', false, action, n));
            }
            SOME.answered("12: 0 for " + action, 4, post -> post.addRule(0, 'a', false, action, 0));
            SOME.answered("12: the last for " + action, 4, post -> post.addRule(0, 'a', false, action, count - 1));
        }
        for (int n : Twins.outside(0)) {
            SOME.answered("12: of no meaning for d, " + n, 4, post -> post.addRule(0, 'a', false, 'd', n));
            SOME.answered("12: of no meaning for x, " + n, 4, post -> post.addRule(0, 'a', false, 'x', n));
        }
    }

    private static void scripts() {
        for (int script : Twins.outside(3)) {
            SOME.refused("13: no script " + script, Check.INDEX, post -> post.dropRules(script));
        }
        NEW.refused("13: no script at all", Check.INDEX, post -> post.dropRules(0));
        FULL.refused("13: a seventh script", Check.INDEX, post -> post.dropRules(6));
        SOME.answered("13: no rules", 0, post -> post.dropRules(2));
        SOME.answered("13: three rules", 3, post -> post.dropRules(0));
        FULL.answered("13: six rules", 6, post -> post.dropRules(0));
        for (int person : Twins.outside(3)) {
            SOME.refused("14: no person " + person, Check.INDEX, post -> post.setScript(person, 0));
            SOME.refused("14: no person, and none " + person, Check.INDEX, post -> post.setScript(person, -1));
            SOME.refused("14: no person, and no script " + person, Check.INDEX, post -> post.setScript(person, 3));
        }
        for (int script : new int[] {Integer.MIN_VALUE, -2, 3, Integer.MAX_VALUE}) {
            SOME.refused("14: no script " + script, Check.INDEX, post -> post.setScript(0, script));
        }
        FULL.refused("14: a seventh script", Check.INDEX, post -> post.setScript(0, 6));
        FULL.refused("14: a fifth person", Check.INDEX, post -> post.setScript(4, 0));
        FULL.answered("14: the last of both", -1, post -> post.setScript(3, 5));
        SOME.answered("14: none", 0, post -> post.setScript(0, -1));
        SOME.answered("14: the last script", 0, post -> post.setScript(0, 2));
        SOME.answered("14: the last person", -1, post -> post.setScript(2, 0));
    }

    private static void messages() {
        noMessage(NEW, Twins.outside(0));
        noMessage(SOME, Twins.outside(4));
        noMessage(FULL, Twins.outside(20));
        FULL.unchanged("15: the first one", 1, post -> post.parts(0));
        FULL.unchanged("15: the twentieth", 1, post -> post.parts(19));
        SOME.unchanged("15: the last one", 1, post -> post.parts(3));
        SOME.unchanged("15: one with parts", 4, post -> post.parts(1));
        for (int message = 0; message < 4; message++) {
            int asked = message;
            SOME.unchanged("25: the message " + message, true, post -> post.isSame(asked));
        }
        FULL.unchanged("25: the twentieth", true, post -> post.isSame(19));
        FULL.unchanged("24: the twentieth as the first one", 0, post -> post.seal(19) - post.seal(0));
    }

    private static void noMessage(Twins twins, int[] messages) {
        for (int message : messages) {
            String of = " of the message " + message;
            twins.refused("15: parts" + of, Check.INDEX, post -> post.parts(message));
            twins.refused("16: typeOf" + of, Check.INDEX, post -> post.typeOf(message, 0));
            twins.refused("17: parentOf" + of, Check.INDEX, post -> post.parentOf(message, 0));
            twins.refused("18: bytes" + of, Check.INDEX, post -> post.bytes(message, 0));
            twins.refused("19: byteAt" + of, Check.INDEX, post -> post.byteAt(message, 0, -1));
            twins.refused("20: subject" + of, Check.INDEX, post -> post.subject(message));
            twins.refused("21: subjectAt" + of, Check.INDEX, post -> post.subjectAt(message, -1));
            twins.refused("22: address" + of, Check.INDEX, post -> post.address(message, -1));
            twins.refused("23: idOf" + of, Check.INDEX, post -> post.idOf(message));
            twins.refused("24: seal" + of, Check.INDEX, post -> post.seal(message));
            twins.refused("25: isSame" + of, Check.INDEX, post -> post.isSame(message));
            twins.refused("43: thread" + of, Check.INDEX, post -> post.thread(message));
            twins.refused("44: above" + of, Check.INDEX, post -> post.above(message));
        }
    }

    /** The message 1 has the parts 0 multi, 1 text "ABC", 2 wrap, 3 text, an empty one. */
    private static void parts() {
        for (int part : Twins.outside(4)) {
            String of = " of the part " + part;
            SOME.refused("16: typeOf" + of, Check.INDEX, post -> post.typeOf(1, part));
            SOME.refused("17: parentOf" + of, Check.INDEX, post -> post.parentOf(1, part));
            SOME.refused("18: bytes" + of, Check.INDEX, post -> post.bytes(1, part));
            SOME.refused("19: byteAt" + of, Check.INDEX, post -> post.byteAt(1, part, -1));
        }
        SOME.refused("17: the message itself", Check.NONE_SUCH, post -> post.parentOf(1, 0));
        for (int part : new int[] {0, 2}) {
            SOME.refused("18: no text " + part, Check.NOT_SUPPORTED, post -> post.bytes(1, part));
            for (int index : Twins.outside(0)) {
                SOME.refused("19: no text " + part, Check.NOT_SUPPORTED, post -> post.byteAt(1, part, index));
            }
        }
        for (int index : Twins.outside(3)) {
            SOME.refused("19: the byte " + index, Check.NONE_SUCH, post -> post.byteAt(1, 1, index));
        }
        for (int index : Twins.outside(0)) {
            SOME.refused("19: without bytes, the byte " + index, Check.NONE_SUCH, post -> post.byteAt(1, 3, index));
        }
        SOME.unchanged("16: the first part", 'm', post -> post.typeOf(1, 0));
        SOME.unchanged("16: a wrap", 'w', post -> post.typeOf(1, 2));
        SOME.unchanged("16: the last part", 't', post -> post.typeOf(1, 3));
        SOME.unchanged("17: the first one that is in one", 0, post -> post.parentOf(1, 1));
        SOME.unchanged("17: the last one", 2, post -> post.parentOf(1, 3));
        SOME.unchanged("18: bytes", 3, post -> post.bytes(1, 1));
        SOME.unchanged("18: no bytes", 0, post -> post.bytes(1, 3));
        SOME.unchanged("19: the first byte", (int) 'A', post -> post.byteAt(1, 1, 0));
        SOME.unchanged("19: the last byte", (int) 'C', post -> post.byteAt(1, 1, 2));
    }

    private static void heads() {
        SOME.unchanged("20: none", 0, post -> post.subject(1));
        SOME.unchanged("20: six signs", 6, post -> post.subject(0));
        for (int index : Twins.outside(6)) {
            SOME.refused("21: the sign " + index, Check.NONE_SUCH, post -> post.subjectAt(0, index));
        }
        for (int index : Twins.outside(0)) {
            SOME.refused("21: without one, the sign " + index, Check.NONE_SUCH, post -> post.subjectAt(1, index));
        }
        SOME.unchanged("21: the first sign", 'r', post -> post.subjectAt(0, 0));
        SOME.unchanged("21: the last sign", 'i', post -> post.subjectAt(0, 5));
        for (int index : Twins.outside(3)) {
            SOME.refused("22: the address " + index, Check.NONE_SUCH, post -> post.address(0, index));
        }
        for (int index : Twins.outside(5)) {
            SOME.refused("22: beyond all, the address " + index, Check.NONE_SUCH, post -> post.address(1, index));
        }
        SOME.refused("22: no from", Check.NONE_SUCH, post -> post.address(1, 0));
        SOME.unchanged("22: from", 12, post -> post.address(0, 0));
        SOME.unchanged("22: from a0", 0, post -> post.address(3, 0));
        SOME.unchanged("22: the first to", 1, post -> post.address(0, 1));
        SOME.unchanged("22: the last to", 12, post -> post.address(0, 2));
        SOME.refused("23: no id", Check.NONE_SUCH, post -> post.idOf(3));
        SOME.unchanged("23: an id", 5, post -> post.idOf(0));
        NEW.refused("48: no messages", Check.ARITHMETIC, post -> post.meanParts());
        SOME.unchanged("48: seven parts of four", 1.75, post -> post.meanParts());
    }

    private static void boxes() {
        noBox(NEW, new int[][] {{0, 0}, {-1, 0}});
        noBox(SOME, new int[][] {{3, 0}, {-1, 0}, {Integer.MIN_VALUE, 3}, {Integer.MAX_VALUE, 3}, {0, -1}, {0, 4},
            {2, Integer.MIN_VALUE}, {2, Integer.MAX_VALUE}, {3, 4}});
        noBox(FULL, new int[][] {{4, 0}, {3, 4}});
        for (int index : Twins.outside(3)) {
            SOME.refused("27: the item " + index, Check.NONE_SUCH, post -> post.itemAt(0, 0, index));
        }
        for (int index : Twins.outside(0)) {
            SOME.refused("27: of an empty box the item " + index, Check.NONE_SUCH, post -> post.itemAt(2, 3, index));
        }
        for (int person : Twins.outside(3)) {
            SOME.refused("28: no person " + person, Check.INDEX, post -> post.room(person));
            SOME.refused("47: no person " + person, Check.INDEX, post -> post.readShare(person));
        }
        NEW.refused("28: no one", Check.INDEX, post -> post.room(0));
        NEW.refused("47: no one", Check.INDEX, post -> post.readShare(0));
        FULL.refused("28: a fifth one", Check.INDEX, post -> post.room(4));
        FULL.refused("47: a fifth one", Check.INDEX, post -> post.readShare(4));
        FULL.refused("47: no items", Check.ARITHMETIC, post -> post.readShare(3));
        FULL.unchanged("28: no room taken", 0, post -> post.room(3));
        FULL.unchanged("47: all of twenty", 1.0f, post -> post.readShare(0));
        SOME.unchanged("26: three are left", 3, post -> post.items(0, 0));
        SOME.unchanged("26: an empty box", 0, post -> post.items(2, 3));
        SOME.unchanged("27: the first item", 100, post -> post.itemAt(0, 0, 0));
        SOME.unchanged("27: the last item", 403, post -> post.itemAt(0, 0, 2));
        FULL.unchanged("27: the twentieth item", 2019, post -> post.itemAt(0, 0, 19));
        SOME.unchanged("28: the room of four items", 137, post -> post.room(0));
        SOME.unchanged("47: one of four", 0.25f, post -> post.readShare(0));
        marks();
    }

    /** In the box the item 1 has the mark 5, the items 3 and 4 have their numbers, and the item 2, that is gone, has 6. */
    private static void marks() {
        SOME.unchanged("29: the mark", 6, post -> post.mark(0, 0));
        SOME.unchanged("29: no mark", 0, post -> post.mark(0, 3));
        int[] since = {3, 3, 3, 2, 1, 0, 0};
        for (int mark = 0; mark < since.length; mark++) {
            int asked = mark;
            SOME.unchanged("30: since " + mark, since[mark], post -> post.changedSince(0, 0, asked));
            SOME.unchanged("31: since " + mark, mark < 6 ? 1 : 0, post -> post.goneSince(0, 0, asked));
        }
        SOME.unchanged("30: since the least", 3, post -> post.changedSince(0, 0, Integer.MIN_VALUE));
        SOME.unchanged("31: since the least", 1, post -> post.goneSince(0, 0, Integer.MIN_VALUE));
        SOME.unchanged("30: since the greatest", 0, post -> post.changedSince(0, 0, Integer.MAX_VALUE));
        SOME.unchanged("31: since the greatest", 0, post -> post.goneSince(0, 0, Integer.MAX_VALUE));
    }

    private static void noBox(Twins twins, int[][] boxes) {
        for (int[] asked : boxes) {
            int person = asked[0];
            int box = asked[1];
            String of = " of the box " + person + " " + box;
            twins.refused("26: items" + of, Check.INDEX, post -> post.items(person, box));
            twins.refused("27: itemAt" + of, Check.INDEX, post -> post.itemAt(person, box, 0));
            twins.refused("27: itemAt, and no item" + of, Check.INDEX, post -> post.itemAt(person, box, -1));
            twins.refused("29: mark" + of, Check.INDEX, post -> post.mark(person, box));
            twins.refused("30: changedSince" + of, Check.INDEX, post -> post.changedSince(person, box, -1));
            twins.refused("31: goneSince" + of, Check.INDEX, post -> post.goneSince(person, box, -1));
            twins.refused("32: grant" + of, Check.INDEX, post -> post.grant(person, box, 1, 7));
            twins.refused("33: open" + of, Check.INDEX, post -> post.open(1, person, box));
        }
    }

    private static void grants() {
        for (int other : Twins.outside(3)) {
            SOME.refused("32: no other person " + other, Check.INDEX, post -> post.grant(0, 0, other, 7));
            SOME.refused("32: nor rights " + other, Check.INDEX, post -> post.grant(0, 0, other, 8));
            SOME.refused("32: no person, twice " + other, Check.INDEX, post -> post.grant(other, 0, other, 7));
        }
        FULL.refused("32: a fifth person", Check.INDEX, post -> post.grant(0, 0, 4, 7));
        for (int rights : Twins.outside(8)) {
            SOME.refused("32: the rights " + rights, Check.ARGUMENT, post -> post.grant(0, 0, 1, rights));
            SOME.refused("32: no box, and " + rights, Check.INDEX, post -> post.grant(0, 4, 1, rights));
        }
        for (int person = 0; person < 3; person++) {
            int same = person;
            SOME.refused("32: both the same " + person, Check.ARGUMENT, post -> post.grant(same, 0, same, 7));
        }
        SOME.refused("32: both the same, and no box", Check.INDEX, post -> post.grant(0, 4, 0, 7));
        for (int rights = 0; rights < 8; rights++) {
            int given = rights;
            SOME.answered("32: the rights " + rights, 3, post -> post.grant(0, 0, 2, given));
        }
        SOME.answered("32: none before", 0, post -> post.grant(0, 3, 2, 7));
        FULL.answered("32: the last of all", 0, post -> post.grant(3, 3, 2, 7));
        FULL.answered("32: for the last person", 0, post -> post.grant(2, 3, 3, 7));
    }

    private static void opens() {
        for (int reader : Twins.outside(3)) {
            SOME.refused("33: no reader " + reader, Check.INDEX, post -> post.open(reader, 0, 0));
            SOME.refused("33: no reader, and no box " + reader, Check.INDEX, post -> post.open(reader, 0, 4));
        }
        SOME.refused("33: no right for this box", Check.NOT_SUPPORTED, post -> post.open(1, 0, 1));
        SOME.refused("33: no right for this person", Check.NOT_SUPPORTED, post -> post.open(0, 1, 0));
        SOME.answered("33: the fifth one", 4, post -> post.open(1, 0, 0));
        FULL.refused("33: there were 5", Check.STATE, post -> post.open(0, 0, 0));
        FULL.refused("33: there were 5, and no right", Check.NOT_SUPPORTED, post -> post.open(1, 0, 0));
        FULL.refused("33: there were 5, and no reader", Check.INDEX, post -> post.open(4, 0, 0));
        FULL.refused("33: there were 5, and no person", Check.INDEX, post -> post.open(0, 4, 0));
        FULL.refused("33: there were 5, and no box", Check.INDEX, post -> post.open(0, 1, 4));
        for (int rights = 0; rights < 8; rights++) {
            int given = rights;
            Twins granted = new Twins(() -> granted(given));
            if (rights % 2 == 0) {
                granted.refused("33: the rights " + rights, Check.NOT_SUPPORTED, post -> post.open(1, 0, 0));
            } else {
                granted.answered("33: the rights " + rights, 0, post -> post.open(1, 0, 0));
            }
        }
    }

    private static Check granted(int rights) {
        Check check = new Check().people("a1", "b2");
        check.post.grant(0, 0, 1, rights);
        return check;
    }

    private static void noSessions() {
        noSession(NEW, Twins.outside(0));
        noSession(SOME, Twins.outside(4));
        noSession(SOME, new int[] {2});
        noSession(FULL, Twins.outside(5));
        noSession(FULL, new int[] {4});
        SOME.answered("34: how many it saw", 4, post -> post.close(0));
        FULL.answered("34: none", 0, post -> post.close(3));
        FULL.unchanged("35: twenty", 20, post -> post.sees(0));
        SOME.unchanged("35: with what is gone", 4, post -> post.sees(3));
        SOME.answered("41: one left", 1, post -> post.told(0));
        SOME.answered("41: one left, and one has other flags", 2, post -> post.told(1));
    }

    private static void noSession(Twins twins, int[] sessions) {
        for (int session : sessions) {
            String of = " of the session " + session;
            twins.refused("34: close" + of, Check.NONE_SUCH, post -> post.close(session));
            twins.refused("35: sees" + of, Check.NONE_SUCH, post -> post.sees(session));
            twins.refused("36: numberAt" + of, Check.NONE_SUCH, post -> post.numberAt(session, -1));
            twins.refused("37: flagsAt" + of, Check.NONE_SUCH, post -> post.flagsAt(session, -1));
            twins.refused("38: setFlags" + of, Check.NONE_SUCH, post -> post.setFlags(session, -1, 16));
            twins.refused("38: setFlags of a place" + of, Check.NONE_SUCH, post -> post.setFlags(session, 0, 1));
            twins.refused("39: remove" + of, Check.NONE_SUCH, post -> post.remove(session, -1));
            twins.refused("39: remove of a place" + of, Check.NONE_SUCH, post -> post.remove(session, 0));
            twins.refused("40: move" + of, Check.NONE_SUCH, post -> post.move(session, -1, 4));
            twins.refused("40: move of a place" + of, Check.NONE_SUCH, post -> post.move(session, 0, 2));
            twins.refused("41: told" + of, Check.NONE_SUCH, post -> post.told(session));
            twins.refused("42: find" + of, Check.NONE_SUCH, post -> post.find(session, 's', 0));
            twins.refused("42: find, and no way" + of, Check.NONE_SUCH, post -> post.find(session, 'a', 0));
        }
    }

    /** The sessions 0, 1 and 3 see four items, of which the second one is gone; the readers may do 7, 1 and 3. */
    private static void places() {
        for (int place : Twins.outside(4)) {
            for (int session : new int[] {0, 1, 3}) {
                String of = " of the place " + place + " and the session " + session;
                SOME.refused("36: numberAt" + of, Check.INDEX, post -> post.numberAt(session, place));
                SOME.refused("37: flagsAt" + of, Check.INDEX, post -> post.flagsAt(session, place));
                SOME.refused("38: setFlags" + of, Check.INDEX, post -> post.setFlags(session, place, 1));
                SOME.refused("38: no flags" + of, Check.INDEX, post -> post.setFlags(session, place, 16));
                SOME.refused("39: remove" + of, Check.INDEX, post -> post.remove(session, place));
                SOME.refused("40: move" + of, Check.INDEX, post -> post.move(session, place, 1));
                SOME.refused("40: no box" + of, Check.INDEX, post -> post.move(session, place, 4));
            }
        }
        FULL.refused("36: an empty box", Check.INDEX, post -> post.numberAt(3, 0));
        FULL.refused("37: an empty box", Check.INDEX, post -> post.flagsAt(3, 0));
        FULL.refused("36: behind twenty", Check.INDEX, post -> post.numberAt(0, 20));
        SOME.unchanged("36: the first place", 1, post -> post.numberAt(0, 0));
        SOME.unchanged("36: what is gone", 2, post -> post.numberAt(0, 1));
        SOME.unchanged("36: the last place", 4, post -> post.numberAt(0, 3));
        SOME.unchanged("37: the first place", 5, post -> post.flagsAt(0, 0));
        SOME.unchanged("37: another session", 4, post -> post.flagsAt(1, 0));
        SOME.unchanged("37: the last place", 0, post -> post.flagsAt(0, 3));
        FULL.unchanged("36: the last of twenty", 20, post -> post.numberAt(0, 19));
    }

    private static void flags() {
        for (int flags : Twins.outside(16)) {
            SOME.refused("38: the flags " + flags, Check.ARGUMENT, post -> post.setFlags(0, 0, flags));
            SOME.refused("38: no right, and " + flags, Check.ARGUMENT, post -> post.setFlags(1, 0, flags));
            SOME.refused("38: it is gone, and " + flags, Check.ARGUMENT, post -> post.setFlags(0, 1, flags));
        }
        SOME.refused("38: may read alone", Check.NOT_SUPPORTED, post -> post.setFlags(1, 0, 1));
        SOME.refused("38: the flags that it has", Check.NOT_SUPPORTED, post -> post.setFlags(1, 0, 5));
        SOME.refused("38: no right, and it is gone", Check.NOT_SUPPORTED, post -> post.setFlags(1, 1, 1));
        SOME.refused("38: it is gone", Check.STATE, post -> post.setFlags(0, 1, 1));
        SOME.refused("38: it is gone, for another one", Check.STATE, post -> post.setFlags(3, 1, 1));
        for (int flags = 0; flags < 16; flags++) {
            int set = flags;
            SOME.answered("38: the flags " + flags, 5, post -> post.setFlags(3, 0, set));
        }
        SOME.answered("38: the last place", 0, post -> post.setFlags(0, 3, 15));
    }

    private static void removes() {
        for (int session : new int[] {1, 3}) {
            SOME.refused("39: may not remove " + session, Check.NOT_SUPPORTED, post -> post.remove(session, 0));
            SOME.refused("39: nor what is gone " + session, Check.NOT_SUPPORTED, post -> post.remove(session, 1));
            SOME.refused("40: may not remove " + session, Check.NOT_SUPPORTED, post -> post.move(session, 0, 1));
            SOME.refused("40: nor what is gone " + session, Check.NOT_SUPPORTED, post -> post.move(session, 1, 1));
        }
        SOME.refused("39: it is gone", Check.STATE, post -> post.remove(0, 1));
        SOME.refused("40: it is gone", Check.STATE, post -> post.move(0, 1, 3));
        for (int box : new int[] {Integer.MIN_VALUE, -1, 0, 4, Integer.MAX_VALUE}) {
            SOME.refused("40: the box " + box, Check.INDEX, post -> post.move(0, 0, box));
            SOME.refused("40: may not remove, and the box " + box, Check.INDEX, post -> post.move(1, 0, box));
            SOME.refused("40: it is gone, and the box " + box, Check.INDEX, post -> post.move(0, 1, box));
        }
        SOME.answered("39: the first place", 1, post -> post.remove(0, 0));
        SOME.answered("39: the last place", 4, post -> post.remove(0, 3));
        SOME.answered("40: to the first other box", 2, post -> post.move(0, 0, 1));
        SOME.answered("40: to the last box", 1, post -> post.move(0, 3, 3));
        FULL.answered("40: the last of twenty", 1, post -> post.move(0, 19, 1));
    }

    private static void finds() {
        for (char other : otherSigns("fsgtz")) {
            SOME.refused("42: by " + (int) other, Check.ARGUMENT, post -> post.find(0, other, 0));
        }
        SOME.unchanged("42: from b2", 1, post -> post.find(0, 'f', 12));
        SOME.unchanged("42: from a0", 1, post -> post.find(0, 'f', 0));
        SOME.unchanged("42: the word", 1, post -> post.find(0, 's', Integer.MIN_VALUE));
        SOME.unchanged("42: all flags 5", 1, post -> post.find(0, 'g', 5));
        SOME.unchanged("42: all flags 0", 4, post -> post.find(0, 'g', 0));
        SOME.unchanged("42: all flags 16", 0, post -> post.find(0, 'g', 16));
        SOME.unchanged("42: longer than 14", 4, post -> post.find(0, 'z', 14));
        SOME.unchanged("42: longer than 15", 3, post -> post.find(0, 'z', 15));
        for (int n : Twins.outside(4)) {
            SOME.unchanged("42: the thread of the message " + n, 0, post -> post.find(0, 't', n));
            SOME.unchanged("42: from the address " + n, 0, post -> post.find(0, 'f', n));
        }
        SOME.unchanged("42: the thread of one without an id", 0, post -> post.find(0, 't', 3));
        SOME.unchanged("42: the thread of the first message", 1, post -> post.find(0, 't', 0));
    }

    private static void threads() {
        SOME.refused("43: no id", Check.NONE_SUCH, post -> post.thread(3));
        SOME.refused("44: no id", Check.NONE_SUCH, post -> post.above(3));
        SOME.refused("44: no parent, its ref is not there", Check.NONE_SUCH, post -> post.above(0));
        SOME.refused("44: no parent, it has no refs", Check.NONE_SUCH, post -> post.above(1));
        SOME.unchanged("44: a parent", 7, post -> post.above(2));
        SOME.unchanged("43: the lowest id", 7, post -> post.thread(2));
        SOME.unchanged("43: alone", 5, post -> post.thread(0));
        SOME.unchanged("45: threads", 2, post -> post.threads());
        NEW.unchanged("45: none", 0, post -> post.threads());
    }

    private static void counts() {
        for (char other : otherSigns("clfad")) {
            SOME.refused("46: the thing " + (int) other, Check.ARGUMENT, post -> post.counted(other));
        }
        for (char what : "clfad".toCharArray()) {
            NEW.unchanged("46: none at first of " + what, 0, post -> post.counted(what));
        }
        SOME.unchanged("46: deliveries", 9, post -> post.counted('d'));
        SOME.unchanged("46: answers", 2, post -> post.counted('a'));
    }
}

/** The promises 9 to 14: the word, scripts and rules, and who has which script. */
public final class ScriptTest {
    public static void main(String[] args) {
        words();
        addsScripts();
        addsRules();
        wrongRules();
        drops();
        sets();
        Check.end("ScriptTest");
    }

    private static void words() {
        PostSieve post = new PostSieve();
        Check.thrown("9: below 32", Check.ARGUMENT, () -> post.word((char) 31));
        Check.thrown("9: above 126", Check.ARGUMENT, () -> post.word((char) 127));
        for (int length = 1; length <= 12; length++) {
            Check.due("9: word", length, post.word(length % 2 == 0 ? ' ' : '~'));
        }
        Check.thrown("9: 12 signs", Check.STATE, () -> post.word('a'));
        Check.thrown("9: no sign, and 12 signs", Check.ARGUMENT, () -> post.word((char) 200));
        Check.due("10: clear", 12, post.clear());
        Check.due("10: clear again", 0, post.clear());
        Check.due("10: the word is empty", 1, post.word('b'));
    }

    private static void addsScripts() {
        PostSieve post = new PostSieve();
        for (int script = 0; script < 6; script++) {
            Check.due("11: addScript", script, post.addScript());
            Check.due("11: without rules", 0, post.dropRules(script));
        }
        Check.thrown("11: 6 scripts", Check.STATE, () -> post.addScript());
    }

    private static void addsRules() {
        PostSieve post = new Check().scripts(1).post;
        String tests = "fsitza";
        for (int rule = 0; rule < 6; rule++) {
            char test = tests.charAt(rule);
            post.word('x');
            Check.due("12: the test " + test, rule + 1, post.addRule(0, test, rule % 2 == 0, 'd', -7));
            Check.due("12: the word is empty then", 0, post.clear());
        }
        post.word('x');
        Check.thrown("12: 6 rules", Check.STATE, () -> post.addRule(0, 'a', false, 'd', 0));
        Check.thrown("12: no test, and 6 rules", Check.ARGUMENT, () -> post.addRule(0, 'b', false, 'd', 0));
        Check.thrown("12: no script, and 6 rules", Check.INDEX, () -> post.addRule(1, 'b', false, 'd', 0));
        Check.due("12: the word stays", 1, post.clear());
    }

    private static void wrongRules() {
        PostSieve post = new Check().scripts(1).post;
        Check.thrown("12: script below 0", Check.INDEX, () -> post.addRule(-1, 'a', false, 'd', 0));
        Check.thrown("12: no test", Check.ARGUMENT, () -> post.addRule(0, 'k', false, 'd', 0));
        Check.thrown("12: no action", Check.ARGUMENT, () -> post.addRule(0, 'a', false, 'a', 0));
        for (String told : new String[] {"k 3", "r 3", "m 15", "n 5"}) {
            char action = told.charAt(0);
            int n = Integer.parseInt(told.substring(2));
            Check.thrown("12: below 0 for " + action, Check.ARGUMENT, () -> post.addRule(0, 'a', false, action, -1));
            Check.thrown("12: above " + told, Check.ARGUMENT, () -> post.addRule(0, 'a', false, action, n + 1));
            Check.due("12: the greatest for " + action, 1, post.addRule(0, 'a', false, action, n));
            post.dropRules(0);
            Check.due("12: 0 for " + action, 1, post.addRule(0, 'a', false, action, 0));
            post.dropRules(0);
        }
        Check.due("12: of no meaning for x", 1, post.addRule(0, 'a', false, 'x', Integer.MIN_VALUE));
        Check.due("12: of no meaning for d", 2, post.addRule(0, 'a', false, 'd', Integer.MAX_VALUE));
    }

    private static void drops() {
        Check check = new Check().people("a1").scripts(2).rule(0, "a k 1").rule(0, "a d 0").rule(1, "a k 2");
        PostSieve post = check.post;
        post.setScript(0, 0);
        Check.thrown("13: no script", Check.INDEX, () -> post.dropRules(2));
        Check.thrown("13: below 0", Check.INDEX, () -> post.dropRules(-1));
        Check.due("13: dropRules", 2, post.dropRules(0));
        Check.due("13: again", 0, post.dropRules(0));
        check.mail("to:a1\n\n");
        Check.due("13: no rule is left", "1:0", check.box(0, 0));
        Check.due("13: the other script has its rule", 1, post.dropRules(1));
        check.rule(0, "a k 3");
        check.mail("to:a1\n\n");
        Check.due("13: rules can come again", "1:1", check.box(0, 3));
    }

    private static void sets() {
        Check check = new Check().people("a1", "b2").scripts(2).rule(1, "a k 2");
        PostSieve post = check.post;
        Check.thrown("14: no person", Check.INDEX, () -> post.setScript(2, 0));
        Check.thrown("14: person below 0", Check.INDEX, () -> post.setScript(-1, 0));
        Check.thrown("14: no script", Check.INDEX, () -> post.setScript(0, 2));
        Check.thrown("14: below -1", Check.INDEX, () -> post.setScript(0, -2));
        Check.due("14: none at first", -1, post.setScript(0, 1));
        check.mail("to:a1,b2\n\n");
        Check.due("14: the script of the person", "1:0", check.box(0, 2));
        Check.due("14: and of no one else", "1:0", check.box(1, 0));
        Check.due("14: before", 1, post.setScript(0, -1));
        Check.due("14: none again", -1, post.setScript(0, 0));
        Check.due("14: the first script", 0, post.setScript(0, 0));
    }
}

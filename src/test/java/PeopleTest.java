/** The promises 4 to 7, 28 and 47: people, quotas, holidays, days, room and the share of what is read. */
public final class PeopleTest {
    public static void main(String[] args) {
        adds();
        quotas();
        holidayCalls();
        answers();
        answersAgain();
        days();
        shares();
        Check.end("PeopleTest");
    }

    private static void adds() {
        PostSieve post = new PostSieve();
        Check.thrown("4: no letter", Check.ARGUMENT, () -> post.addPerson('A', 1));
        Check.thrown("4: ahead of a", Check.ARGUMENT, () -> post.addPerson('`', 1));
        Check.thrown("4: behind z", Check.ARGUMENT, () -> post.addPerson('{', 1));
        Check.thrown("4: no digit", Check.ARGUMENT, () -> post.addPerson('a', 10));
        Check.thrown("4: below 0", Check.ARGUMENT, () -> post.addPerson('a', -1));
        Check.due("4: the first", 0, post.addPerson('a', 0));
        Check.thrown("4: the same address", Check.NOT_SUPPORTED, () -> post.addPerson('a', 0));
        Check.due("4: the second", 1, post.addPerson('z', 9));
        Check.due("4: the third", 2, post.addPerson('a', 9));
        Check.due("4: the fourth", 3, post.addPerson('z', 0));
        Check.thrown("4: there are 4", Check.STATE, () -> post.addPerson('b', 1));
        Check.thrown("4: an address that is there, of 4", Check.NOT_SUPPORTED, () -> post.addPerson('z', 0));
        Check.thrown("4: no address, of 4", Check.ARGUMENT, () -> post.addPerson('z', 11));
    }

    private static void quotas() {
        Check check = new Check().people("a1");
        PostSieve post = check.post;
        Check.thrown("5: no person", Check.INDEX, () -> post.setQuota(1, -2));
        Check.thrown("5: person below 0", Check.INDEX, () -> post.setQuota(-1, 5));
        Check.thrown("5: too small", Check.ARGUMENT, () -> post.setQuota(0, -2));
        Check.thrown("5: too great", Check.ARGUMENT, () -> post.setQuota(0, 100000));
        Check.due("5: none at first", -1, post.setQuota(0, 99999));
        Check.due("5: before", 99999, post.setQuota(0, 16));
        check.mail("to:a1\n\n8");
        Check.due("28: room", 8, post.room(0));
        check.mail("to:a1\n\n8");
        Check.due("5: just as great", 16, post.room(0));
        check.mail("to:a1\n\n");
        Check.due("5: greater is refused", 1, post.counted('f'));
        Check.due("5: and not kept", "1:0 2:1", check.box(0, 0));
        Check.due("5: before", 16, post.setQuota(0, 0));
        check.mail("to:a1\n\n");
        Check.due("5: a quota of 0", 2, post.counted('f'));
        Check.due("5: before", 0, post.setQuota(0, -1));
        check.mail("to:a1\n\n9.");
        Check.due("28: room without a quota", 25, post.room(0));
        Check.thrown("28: no person", Check.INDEX, () -> post.room(1));
        Check.thrown("28: below 0", Check.INDEX, () -> post.room(-1));
    }

    private static void holidayCalls() {
        PostSieve post = new Check().people("a1").post;
        Check.thrown("6: no person", Check.INDEX, () -> post.setHoliday(1, 0, 0, 0));
        Check.thrown("6: below 0", Check.INDEX, () -> post.setHoliday(-1, 0, 0, 1));
        Check.thrown("6: 0 days", Check.ARGUMENT, () -> post.setHoliday(0, 0, 0, 0));
        Check.thrown("6: 100 days", Check.ARGUMENT, () -> post.setHoliday(0, 0, 0, 100));
        Check.due("6: no answers", 0, post.setHoliday(0, -5, 5, 99));
    }

    private static int answersTo(int from, int to, String mail) {
        Check check = new Check().people("a1", "b2");
        check.post.setHoliday(0, from, to, 1);
        check.post.pass(5);
        check.mail(mail);
        Check.due("6: the answers of the person", check.post.counted('a'), check.post.setHoliday(0, 1, 0, 1));
        return check.post.counted('a');
    }

    private static void answers() {
        String mail = "from:c3\nto:a1\n\n";
        Check.due("6: the first day", 1, answersTo(5, 9, mail));
        Check.due("6: to the address a0", 1, answersTo(5, 9, "from:a0\nto:a1\n\n"));
        Check.due("6: to the address z9", 1, answersTo(5, 9, "from:z9\nto:a1\n\n"));
        Check.due("6: the field list ahead of the others", 0, answersTo(0, 9, "list:x\nfrom:c3\nto:a1\n\n"));
        Check.due("6: the last day", 1, answersTo(2, 5, mail));
        Check.due("6: ahead of it", 0, answersTo(6, 9, mail));
        Check.due("6: behind it", 0, answersTo(2, 4, mail));
        Check.due("6: the last day ahead of the first", 0, answersTo(6, 4, mail));
        Check.due("6: no from address", 0, answersTo(0, 9, "from:x\nto:a1\n\n"));
        Check.due("6: from the person", 0, answersTo(0, 9, "from:a1\nto:a1\n\n"));
        Check.due("6: a field list", 0, answersTo(0, 9, "from:c3\nto:a1\nlist:news\n\n"));
        Check.due("6: an empty field list", 0, answersTo(0, 9, "from:c3\nto:a1\nList:\n\n"));
        Check.due("6: one of two addresses", 1, answersTo(0, 9, "from:c3\nto:b2,a1\n\n"));
        Check.due("6: not delivered to the person", 0, answersTo(0, 9, "from:c3\nto:b2\n\n"));
        Check redirected = new Check().people("a1", "b2").scripts(1).rule(0, "a r 0");
        redirected.post.setScript(1, 0);
        redirected.post.setHoliday(0, 0, 9, 1);
        redirected.mail("from:c3\nto:b2\n\n");
        Check.due("6: delivered, but not among its to addresses", 0, redirected.post.counted('a'));
        Check.due("6: it was delivered", 2, redirected.post.counted('d'));
    }

    private static void answersAgain() {
        Check check = new Check().people("a1", "b2");
        PostSieve post = check.post;
        post.setHoliday(0, 0, 99, 3);
        check.mail("from:c3\nto:a1\n\n");
        check.mail("from:c3\nto:a1\n\n");
        Check.due("6: one answer a day", 1, post.counted('a'));
        check.mail("from:c4\nto:a1\n\n");
        Check.due("6: another address", 2, post.counted('a'));
        post.pass(2);
        check.mail("from:c3\nto:a1\n\n");
        Check.due("6: within the days", 2, post.counted('a'));
        post.pass(1);
        check.mail("from:c3\nto:a1\n\n");
        Check.due("6: the day of the last one plus the days is the present day", 3, post.counted('a'));
        Check.due("6: answers of the person", 3, post.setHoliday(0, 0, 99, 4));
        post.pass(3);
        check.mail("from:c3\nto:a1\n\n");
        Check.due("6: the last one is known in a new holiday", 3, post.counted('a'));
        post.setHoliday(1, 0, 99, 9);
        check.mail("from:c3\nto:a1,b2\n\n");
        Check.due("6: another person", 4, post.counted('a'));
        Check.due("6: answers of this person", 1, post.setHoliday(1, 0, 9, 9));
        Check.due("6: answers of the first person", 3, post.setHoliday(0, 0, 9, 9));
        Check.due("6: answers are not messages", 7, post.send());
    }

    private static void days() {
        PostSieve post = new PostSieve();
        Check.thrown("7: 0 days", Check.ARGUMENT, () -> post.pass(0));
        Check.thrown("7: 100 days", Check.ARGUMENT, () -> post.pass(100));
        Check.thrown("7: below 0", Check.ARGUMENT, () -> post.pass(-1));
        Check.due("7: 1 day", 1, post.pass(1));
        Check.due("7: 99 days", 100, post.pass(99));
    }

    private static void shares() {
        Check check = new Check().people("a1", "b2").scripts(2).rule(0, "a m 1").rule(0, "a k 3").rule(1, "a m 14");
        PostSieve post = check.post;
        Check.thrown("47: no person", Check.INDEX, () -> post.readShare(2));
        Check.thrown("47: below 0", Check.INDEX, () -> post.readShare(-1));
        Check.thrown("47: no items", Check.ARITHMETIC, () -> post.readShare(0));
        post.setScript(0, 0);
        check.mail("to:a1\n\n");
        Check.due("47: one of one", 1.0f, post.readShare(0));
        post.setScript(0, 1);
        check.mail("to:a1\n\n");
        check.mail("to:a1\n\n");
        Check.due("47: one of three, over all boxes", 1.0f / 3.0f, post.readShare(0));
        Check.thrown("47: of another person", Check.ARITHMETIC, () -> post.readShare(1));
        post.open(0, 0, 3);
        post.remove(0, 0);
        Check.due("47: none of two", 0.0f, post.readShare(0));
    }
}

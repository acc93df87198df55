/** The promises 33 to 42: sessions, what they see, do, are told and find. */
public final class SessionTest {
    public static void main(String[] args) {
        opens();
        closes();
        looks();
        setsFlags();
        seesMany();
        removes();
        moves();
        tells();
        rights();
        otherOwners();
        finds();
        findsThreads();
        noSessions();
        Check.end("SessionTest");
    }

    private static Check full(int mails) {
        Check check = new Check().people("a1", "b2");
        for (int mail = 0; mail < mails; mail++) {
            check.mail("to:a1\n\n" + mail);
        }
        return check;
    }

    private static void opens() {
        Check check = full(2);
        PostSieve post = check.post;
        Check.thrown("33: no reader", Check.INDEX, () -> post.open(2, 0, 0));
        Check.thrown("33: reader below 0", Check.INDEX, () -> post.open(-1, 0, 0));
        Check.thrown("33: may not read", Check.NOT_SUPPORTED, () -> post.open(1, 0, 0));
        post.grant(0, 0, 1, 6);
        Check.thrown("33: may do all but read", Check.NOT_SUPPORTED, () -> post.open(1, 0, 0));
        post.grant(0, 0, 1, 1);
        Check.due("33: may read", 0, post.open(1, 0, 0));
        Check.thrown("33: of another box", Check.NOT_SUPPORTED, () -> post.open(1, 0, 1));
        Check.thrown("33: the other way round", Check.NOT_SUPPORTED, () -> post.open(0, 1, 0));
        Check.due("33: the person", 1, post.open(0, 0, 3));
        post.close(0);
        for (int session = 2; session < 5; session++) {
            Check.due("33: open", session, post.open(0, 0, 0));
        }
        Check.thrown("33: there were 5", Check.STATE, () -> post.open(0, 0, 0));
        Check.thrown("33: there were 5, and may not read", Check.NOT_SUPPORTED, () -> post.open(0, 1, 0));
        Check.thrown("33: there were 5, and no box", Check.INDEX, () -> post.open(0, 1, 4));
        Check.due("33: what was there", "1/0 2/0", check.seen(4));
    }

    private static void closes() {
        Check check = full(2);
        check.post.open(0, 0, 0);
        check.post.remove(0, 0);
        Check.due("34: how many it saw", 2, check.post.close(0));
        Check.thrown("34: it is closed", Check.NONE_SUCH, () -> check.post.close(0));
        Check.due("34: the box stays", "2:1", check.box(0, 0));
        Check.due("34: another session", 1, check.post.open(0, 0, 0));
        Check.due("34: one item", 1, check.post.close(1));
    }

    private static void looks() {
        Check check = full(3);
        PostSieve post = check.post;
        post.open(0, 0, 0);
        post.open(0, 0, 1);
        Check.due("35: three items", 3, post.sees(0));
        Check.due("35: an empty box", 0, post.sees(1));
        Check.due("36: the last one", 3, post.numberAt(0, 2));
        Check.due("37: its flags", 0, post.flagsAt(0, 2));
        for (int place : new int[] {-1, 3, Integer.MAX_VALUE}) {
            Check.thrown("36: no place", Check.INDEX, () -> post.numberAt(0, place));
            Check.thrown("37: no place", Check.INDEX, () -> post.flagsAt(0, place));
            Check.thrown("38: no place", Check.INDEX, () -> post.setFlags(0, place, 16));
            Check.thrown("39: no place", Check.INDEX, () -> post.remove(0, place));
            Check.thrown("40: no place", Check.INDEX, () -> post.move(0, place, 1));
        }
        Check.thrown("36: no place in an empty box", Check.INDEX, () -> post.numberAt(1, 0));
        check.mail("to:a1\n\n");
        Check.due("35: it is not told", 3, post.sees(0));
        post.remove(0, 0);
        Check.due("36: it sees what is gone", "1/0 2/0 3/0", check.seen(0));
    }

    private static void setsFlags() {
        Check check = full(2);
        PostSieve post = check.post;
        post.open(0, 0, 0);
        post.open(0, 0, 0);
        Check.thrown("38: below 0", Check.ARGUMENT, () -> post.setFlags(0, 0, -1));
        Check.thrown("38: above 15", Check.ARGUMENT, () -> post.setFlags(0, 0, 16));
        Check.due("38: those before", 0, post.setFlags(0, 1, 15));
        Check.due("37: those that it has set itself", "1/0 2/15", check.seen(0));
        Check.due("37: the other one is not told", "1/0 2/0", check.seen(1));
        Check.due("38: those that it had in the box", 15, post.setFlags(1, 1, 3));
        Check.due("37: set by the other one", "1/0 2/15", check.seen(0));
        Check.due("38: the same", 3, post.setFlags(0, 1, 3));
        Check.due("37: set to what they are", "1/0 2/3", check.seen(0));
        post.remove(1, 1);
        Check.thrown("38: it is gone", Check.STATE, () -> post.setFlags(0, 1, 5));
        Check.thrown("38: no flags, and gone", Check.ARGUMENT, () -> post.setFlags(0, 1, 16));
        Check.due("37: as it was", "1/0 2/3", check.seen(0));
        Check.due("38: some", 0, post.setFlags(0, 0, 8));
        Check.due("38: none", 8, post.setFlags(0, 0, 0));
        Check.due("37: none", "1/0 2/3", check.seen(0));
        Check.due("29: none are others", 7, post.mark(0, 0));
    }

    private static void seesMany() {
        Check check = full(12);
        PostSieve post = check.post;
        post.open(0, 0, 0);
        for (int place = 0; place < 12; place++) {
            post.setFlags(0, place, place);
        }
        post.open(0, 0, 0);
        String flags = "1/0 2/1 3/2 4/3 5/4 6/5 7/6 8/7 9/8 10/9 11/10 12/11";
        Check.due("37: of twelve items", flags, check.seen(0));
        Check.due("37: of twelve items, for another one", flags, check.seen(1));
        for (int mail = 0; mail < 8; mail++) {
            check.mail("to:a1\n\n");
        }
        Check.due("41: eight came", 8, post.told(0));
        String twenty = flags + " 13/0 14/0 15/0 16/0 17/0 18/0 19/0 20/0";
        Check.due("41: with the flags of the others as they were", twenty, check.seen(0));
    }

    private static void removes() {
        Check check = full(3);
        PostSieve post = check.post;
        post.open(0, 0, 0);
        post.open(0, 0, 0);
        Check.due("39: its number", 2, post.remove(0, 1));
        Check.due("39: the box", "1:0 3:2", check.box(0, 0));
        Check.due("39: the session sees it until it is told", "1/0 2/0 3/0", check.seen(0));
        Check.thrown("39: it is gone", Check.STATE, () -> post.remove(0, 1));
        Check.thrown("39: for the other one too", Check.STATE, () -> post.remove(1, 1));
        Check.thrown("40: it is gone", Check.STATE, () -> post.move(1, 1, 2));
        Check.due("28: its room is free", 16, post.room(0));
        post.setQuota(0, 24);
        check.mail("to:a1\n\nx");
        Check.due("39: for another one", "1:0 3:2 4:3", check.box(0, 0));
    }

    private static void moves() {
        Check check = full(2);
        PostSieve post = check.post;
        post.open(0, 0, 0);
        post.setFlags(0, 0, 6);
        Check.thrown("40: this box", Check.INDEX, () -> post.move(0, 0, 0));
        Check.thrown("40: box below 0", Check.INDEX, () -> post.move(0, 0, -1));
        Check.thrown("40: no box", Check.INDEX, () -> post.move(0, 0, 4));
        post.open(0, 0, 0);
        post.setFlags(1, 0, 9);
        post.setQuota(0, 0);
        Check.due("40: its number there", 1, post.move(0, 0, 3));
        Check.due("40: here it goes", "2:1", check.box(0, 0));
        Check.due("40: there it is", "1:0", check.box(0, 3));
        Check.due("28: the same room, whatever the quota", 16, post.room(0));
        Check.due("46: nothing is refused", 0, post.counted('f'));
        Check.thrown("40: it is gone", Check.STATE, () -> post.move(0, 0, 3));
        Check.thrown("40: it is gone, and this box", Check.INDEX, () -> post.move(0, 0, 0));
        Check.due("40: the next number there", 2, post.move(0, 1, 3));
        post.open(0, 0, 3);
        Check.due("40: with its flags in the box", "1/9 2/0", check.seen(2));
    }

    private static void tells() {
        Check check = full(4);
        PostSieve post = check.post;
        post.open(0, 0, 0);
        post.open(0, 0, 0);
        Check.due("41: nothing", 0, post.told(0));
        post.setFlags(1, 0, 1);
        post.setFlags(1, 1, 2);
        post.remove(1, 1);
        post.remove(1, 2);
        check.mail("to:a1\n\n");
        check.mail("to:a1\n\n");
        Check.due("41: two left, two came, one has other flags", 5, post.told(0));
        Check.due("41: what the box is", "1/1 4/0 5/0 6/0", check.seen(0));
        Check.due("41: again", 0, post.told(0));
        Check.due("41: what it did itself", 4, post.told(1));
        post.setFlags(0, 0, 5);
        post.setFlags(0, 0, 1);
        post.setFlags(1, 0, 4);
        post.setFlags(1, 0, 1);
        Check.due("41: flags that are as they were", 0, post.told(0));
        check.mail("to:a1\n\n");
        post.told(0);
        post.remove(0, 4);
        Check.due("41: what came and left is not seen", 0, post.told(1));
        Check.due("41: without it", "1/1 4/0 5/0 6/0", check.seen(1));
    }

    private static void rights() {
        Check check = full(3);
        PostSieve post = check.post;
        post.grant(0, 0, 1, 1);
        post.open(1, 0, 0);
        Check.thrown("38: may read alone", Check.NOT_SUPPORTED, () -> post.setFlags(0, 0, 1));
        Check.thrown("39: may read alone", Check.NOT_SUPPORTED, () -> post.remove(0, 0));
        Check.thrown("40: may read alone", Check.NOT_SUPPORTED, () -> post.move(0, 0, 1));
        Check.thrown("40: may read alone, and no box", Check.INDEX, () -> post.move(0, 0, 4));
        Check.thrown("38: may read alone, and no flags", Check.ARGUMENT, () -> post.setFlags(0, 0, 16));
        post.grant(0, 0, 1, 2);
        Check.due("38: may change flags", 0, post.setFlags(0, 0, 7));
        Check.thrown("39: may not remove", Check.NOT_SUPPORTED, () -> post.remove(0, 0));
        post.grant(0, 0, 1, 4);
        Check.thrown("38: may not change flags", Check.NOT_SUPPORTED, () -> post.setFlags(0, 0, 1));
        Check.due("39: may remove", 1, post.remove(0, 0));
        Check.due("40: may remove here", 1, post.move(0, 1, 2));
        Check.due("40: in the box of the person", "1:1", check.box(0, 2));
        Check.due("40: not of the reader", "", check.box(1, 2));
        post.grant(0, 0, 1, 0);
        Check.thrown("39: taken back, and gone", Check.NOT_SUPPORTED, () -> post.remove(0, 0));
        Check.due("36: it sees what it saw", "1/7 2/0 3/0", check.seen(0));
        Check.due("41: it is told", 2, post.told(0));
    }

    /** Sessions on boxes of people who are not the first one. */
    private static void otherOwners() {
        Check check = new Check().people("a1", "b2", "c3", "d4");
        PostSieve post = check.post;
        check.mail("to:a1,b2,c3,d4\n\n1");
        check.mail("to:d4,c3,b2,a1\n\n2");
        for (int person = 1; person < 4; person++) {
            int session = post.open(person, person, 0);
            Check.due("33: its own box", person - 1, session);
            Check.due("38: may do all", 0, post.setFlags(session, 1, person));
            Check.due("39: may do all", 1, post.remove(session, 0));
            Check.due("28: its room is less", 17, post.room(person));
            Check.due("40: may do all", 1, post.move(session, 1, person % 3 + 1));
            Check.due("40: in its own box", "1:1", check.box(person, person % 3 + 1));
            Check.due("28: its room stays", 17, post.room(person));
        }
        Check.due("28: of the first person", 34, post.room(0));
        Check.due("40: nor a box of the first person", "1:0 2:1", check.box(0, 0));
        check.mail("to:c3\n\n");
        post.grant(2, 0, 0, 1);
        int reads = post.open(0, 2, 0);
        Check.due("33: the first person on a box of another one", 3, reads);
        Check.thrown("38: may read alone", Check.NOT_SUPPORTED, () -> post.setFlags(reads, 0, 1));
        Check.thrown("39: may read alone", Check.NOT_SUPPORTED, () -> post.remove(reads, 0));
        Check.thrown("40: may read alone", Check.NOT_SUPPORTED, () -> post.move(reads, 0, 1));
        post.grant(2, 0, 0, 7);
        Check.due("38: may do all now", 0, post.setFlags(reads, 0, 1));
        Check.due("40: may do all now", 1, post.move(reads, 0, 1));
        Check.due("40: a box of the owner", "1:2", check.box(2, 1));
        Check.due("40: none of the reader", "", check.box(0, 1));
    }

    private static void finds() {
        Check check = new Check().people("a1");
        PostSieve post = check.post;
        check.mail("from:b2\nto:a1\nsubject:Hello\n\n");
        check.mail("from:b2\nto:a1\nsubject:hell\n\n123456789");
        check.mail("to:a1\n\n");
        check.mail("from:a0\nto:a1\nsubject:=?q?h=65?=\n\n");
        post.open(0, 0, 0);
        post.setFlags(0, 0, 5);
        post.setFlags(0, 1, 1);
        check.mail("from:b2\nto:a1\n\n");
        Check.thrown("42: no way to look", Check.ARGUMENT, () -> post.find(0, 'x', 0));
        Check.due("42: from", 2, post.find(0, 'f', 12));
        Check.due("42: from a0", 1, post.find(0, 'f', 0));
        Check.due("42: from no one", 0, post.find(0, 'f', -1));
        Check.due("42: an empty word", 4, post.find(0, 's', 7));
        check.word("he");
        Check.due("42: the word", 2, post.find(0, 's', 0));
        Check.due("42: the word stays", 2, post.clear());
        check.word("ll");
        Check.due("42: within", 2, post.find(0, 's', 0));
        check.word("Hello!");
        Check.due("42: longer", 0, post.find(0, 's', 0));
        int[][] flags = {{0, 4}, {1, 2}, {4, 1}, {5, 1}, {2, 0}, {7, 0}, {16, 0}, {-1, 0}, {21, 0}};
        for (int[] asked : flags) {
            Check.due("42: all flags " + asked[0], asked[1], post.find(0, 'g', asked[0]));
        }
        Check.due("42: longer than 29", 2, post.find(0, 'z', 29));
        Check.due("42: longer than 28", 3, post.find(0, 'z', 28));
        Check.due("42: longer than any", 0, post.find(0, 'z', Integer.MAX_VALUE));
        Check.due("42: longer than none", 4, post.find(0, 'z', -1));
        post.open(0, 0, 0);
        post.setFlags(1, 2, 5);
        post.remove(1, 1);
        Check.due("42: flags as it sees them", 1, post.find(0, 'g', 5));
        Check.due("42: items that it sees", 2, post.find(0, 'f', 12));
        Check.due("42: as the other one sees them", 2, post.find(1, 'g', 5));
    }

    private static void findsThreads() {
        Check check = new Check().people("a1");
        PostSieve post = check.post;
        check.mail("to:a1\nid:1\n\n");
        check.mail("to:a1\nid:2\nrefs:1\n\n");
        check.mail("to:a1\nid:3\nsubject:x\n\n");
        check.mail("to:a1\n\n");
        check.mail("id:4\nrefs:3\n\n");
        check.mail("to:a1\nid:1\n\n");
        post.open(0, 0, 0);
        int[][] found = {{0, 3}, {1, 3}, {2, 1}, {3, 0}, {4, 1}, {5, 3}, {6, 0}, {20, 0}, {-1, 0}};
        for (int[] asked : found) {
            Check.due("42: the thread of " + asked[0], asked[1], post.find(0, 't', asked[0]));
        }
        Check zero = new Check().people("a1");
        zero.mail("to:a1\nid:0\n\n");
        zero.mail("to:a1\nid:1\nrefs:0\n\n");
        zero.mail("to:a1\n\n");
        zero.post.open(0, 0, 0);
        Check.due("42: the thread of the id 0", 2, zero.post.find(0, 't', 0));
        Check.due("42: of no id", 0, zero.post.find(0, 't', 2));
        Check.due("42: of the message behind the last one", 0, zero.post.find(0, 't', 3));
    }

    private static void noSessions() {
        Check check = full(1);
        PostSieve post = check.post;
        post.open(0, 0, 0);
        post.open(0, 0, 0);
        post.close(1);
        for (int session : new int[] {-1, 1, 2, 5, Integer.MAX_VALUE, Integer.MIN_VALUE}) {
            Check.thrown("34: no session", Check.NONE_SUCH, () -> post.close(session));
            Check.thrown("35: no session", Check.NONE_SUCH, () -> post.sees(session));
            Check.thrown("36: no session", Check.NONE_SUCH, () -> post.numberAt(session, 9));
            Check.thrown("37: no session", Check.NONE_SUCH, () -> post.flagsAt(session, 9));
            Check.thrown("38: no session", Check.NONE_SUCH, () -> post.setFlags(session, 9, 16));
            Check.thrown("39: no session", Check.NONE_SUCH, () -> post.remove(session, 9));
            Check.thrown("40: no session", Check.NONE_SUCH, () -> post.move(session, 9, 9));
            Check.thrown("41: no session", Check.NONE_SUCH, () -> post.told(session));
            Check.thrown("42: no session", Check.NONE_SUCH, () -> post.find(session, 'x', 0));
        }
        Check.due("34: the other one is open", 1, post.close(0));
    }
}

/** The promises 26, 27 and 29 to 32: boxes, their items and marks, and rights for them. */
public final class BoxTest {
    public static void main(String[] args) {
        items();
        marks();
        wrongBoxes();
        grants();
        manyItems();
        Check.end("BoxTest");
    }

    private static void items() {
        Check check = new Check().people("a1", "b2");
        PostSieve post = check.post;
        Check.due("26: none at first", 0, post.items(0, 0));
        check.mail("to:a1\n\n0");
        check.mail("to:b2\n\n1");
        check.mail("to:a1\n\n2");
        check.mail("to:a1\n\n3");
        Check.due("26: items", 3, post.items(0, 0));
        Check.due("27: the number and the message", 202, post.itemAt(0, 0, 1));
        Check.due("27: all", "1:0 2:2 3:3", check.box(0, 0));
        Check.thrown("27: below 0", Check.NONE_SUCH, () -> post.itemAt(0, 0, -1));
        Check.thrown("27: behind the end", Check.NONE_SUCH, () -> post.itemAt(0, 0, 3));
        Check.thrown("27: an empty box", Check.NONE_SUCH, () -> post.itemAt(0, 1, 0));
        post.open(0, 0, 0);
        post.remove(0, 2);
        post.remove(0, 0);
        Check.due("27: what is left", "2:2", check.box(0, 0));
        Check.thrown("27: behind what is left", Check.NONE_SUCH, () -> post.itemAt(0, 0, 1));
        check.mail("to:a1\n\n4");
        Check.due("27: a number is never used again", "2:2 4:4", check.box(0, 0));
        Check.due("28: the room of what is left", 16, post.room(0));
    }

    private static void marks() {
        Check check = new Check().people("a1");
        PostSieve post = check.post;
        Check.due("29: 0 at first", 0, post.mark(0, 0));
        check.mail("to:a1\n\n");
        check.mail("to:a1\n\n");
        check.mail("to:a1\n\n");
        Check.due("29: one for each that comes", 3, post.mark(0, 0));
        Check.due("29: of this box alone", 0, post.mark(0, 1));
        Check.due("30: greater than 0", 3, post.changedSince(0, 0, 0));
        Check.due("30: greater than 2", 1, post.changedSince(0, 0, 2));
        Check.due("30: greater than 3", 0, post.changedSince(0, 0, 3));
        Check.due("30: below 0", 3, post.changedSince(0, 0, Integer.MIN_VALUE));
        post.open(0, 0, 0);
        post.setFlags(0, 0, 4);
        Check.due("29: flags that become others", 4, post.mark(0, 0));
        Check.due("30: the item has this mark", 1, post.changedSince(0, 0, 3));
        post.setFlags(0, 0, 4);
        Check.due("29: the same flags", 4, post.mark(0, 0));
        Check.due("31: nothing is gone", 0, post.goneSince(0, 0, -1));
        post.remove(0, 1);
        Check.due("29: one that goes", 5, post.mark(0, 0));
        Check.due("31: gone", 1, post.goneSince(0, 0, 4));
        Check.due("31: not since then", 0, post.goneSince(0, 0, 5));
        Check.due("30: what is gone is not there", 1, post.changedSince(0, 0, 3));
        post.move(0, 2, 1);
        Check.due("31: moved", 2, post.goneSince(0, 0, 0));
        Check.due("29: of the other box", 1, post.mark(0, 1));
        Check.due("30: what came there", 1, post.changedSince(0, 1, 0));
        Check.due("31: nothing is gone there", 0, post.goneSince(0, 1, 0));
        Check.due("30: what is left here", 1, post.changedSince(0, 0, 0));
    }

    private static void wrongBoxes() {
        PostSieve post = new Check().people("a1").post;
        int[][] wrong = {{-1, 0}, {1, 0}, {0, -1}, {0, 4}, {Integer.MAX_VALUE, 0}, {0, Integer.MIN_VALUE}};
        for (int[] asked : wrong) {
            String what = " of the box " + asked[0] + " " + asked[1];
            Check.thrown("26: items" + what, Check.INDEX, () -> post.items(asked[0], asked[1]));
            Check.thrown("27: itemAt" + what, Check.INDEX, () -> post.itemAt(asked[0], asked[1], 0));
            Check.thrown("29: mark" + what, Check.INDEX, () -> post.mark(asked[0], asked[1]));
            Check.thrown("30: changedSince" + what, Check.INDEX, () -> post.changedSince(asked[0], asked[1], 0));
            Check.thrown("31: goneSince" + what, Check.INDEX, () -> post.goneSince(asked[0], asked[1], 0));
            Check.thrown("32: grant" + what, Check.INDEX, () -> post.grant(asked[0], asked[1], 0, 9));
            Check.thrown("33: open" + what, Check.INDEX, () -> post.open(0, asked[0], asked[1]));
        }
    }

    private static void grants() {
        PostSieve post = new Check().people("a1", "b2", "c3").post;
        Check.thrown("32: no other person", Check.INDEX, () -> post.grant(0, 0, 3, 8));
        Check.thrown("32: other below 0", Check.INDEX, () -> post.grant(0, 0, -1, 1));
        Check.thrown("32: no person", Check.INDEX, () -> post.grant(3, 0, 0, 8));
        Check.thrown("32: no person, twice", Check.INDEX, () -> post.grant(3, 0, 3, 1));
        Check.thrown("32: no box, and both the same", Check.INDEX, () -> post.grant(0, 4, 0, 1));
        Check.thrown("32: rights below 0", Check.ARGUMENT, () -> post.grant(0, 0, 1, -1));
        Check.thrown("32: rights above 7", Check.ARGUMENT, () -> post.grant(0, 0, 1, 8));
        Check.thrown("32: both the same", Check.ARGUMENT, () -> post.grant(1, 0, 1, 3));
        Check.due("32: none at first", 0, post.grant(0, 0, 1, 5));
        Check.due("32: in place of others", 5, post.grant(0, 0, 1, 2));
        Check.due("32: of this box", 0, post.grant(0, 1, 1, 7));
        Check.due("32: for this person", 0, post.grant(0, 0, 2, 7));
        Check.due("32: of this person", 0, post.grant(1, 0, 0, 1));
        Check.due("32: before", 2, post.grant(0, 0, 1, 0));
        Check.due("32: taken back", 0, post.grant(0, 0, 1, 0));
    }

    private static void manyItems() {
        Check check = new Check().people("a1");
        PostSieve post = check.post;
        check.mail("to:a1\n\n");
        post.open(0, 0, 0);
        post.open(0, 0, 1);
        for (int number = 1; number <= 100; number++) {
            Check.due("40: its number there", number, post.move(0, 0, 1));
            post.told(1);
            Check.due("40: its number here", number + 1, post.move(1, 0, 0));
            Check.due("41: it left and came", 2, post.told(0));
        }
        Check.due("27: the last number", "101:0", check.box(0, 0));
        Check.due("29: two marks for each", 201, post.mark(0, 0));
        Check.due("31: all that are gone", 100, post.goneSince(0, 0, 0));
        Check.due("28: room", 7, post.room(0));
    }
}

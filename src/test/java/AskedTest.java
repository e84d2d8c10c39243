/** Promises 29 to 35: images, kinds, asks, the trace and counts. */
public final class AskedTest {
    private static final int NONE = ColdGuest.NONE, BAD = ColdGuest.BAD, STATE = ColdGuest.STATE;
    private static final int KIND = -1000013;
    private static final Check check = new Check();

    public static void main(String[] args) {
        imagesRefused();
        images();
        imagesOfOtherHouses();
        kind();
        as();
        sizes();
        marks();
        traceStays();
        count();
        check.end("AskedTest");
    }

    private static void imagesRefused() {
        ColdGuest x = new ColdGuest();
        check.due("no house", x.image(0), STATE);
        check.due("image 2", x.image(2), BAD);
        check.due("image -1", x.image(-1), BAD);
        check.due("restore 2", x.restore(2), BAD);
        check.due("restore -1", x.restore(-1), BAD);
        check.due("none kept", x.restore(1), STATE);
        Check.tell(x, "n1,0,1,0;");
        check.due("none kept yet", x.restore(0), STATE);
        check.due("kept", x.image(0), 1);
        check.due("the other one is not", x.restore(1), STATE);
        check.due("restored", x.restore(0), 1);
    }

    private static void images() {
        ColdGuest x = Check.with("n2,0,10,5;d0,1,1;r0,3;");
        x.hours(2);
        check.due("first", x.image(0), 1);
        check.due("acts stay", x.count(7), 2);
        x.door(0, 0);
        x.sit(0, 1);
        x.hours(3);
        check.due("second", x.image(1), 1);
        check.due("back to the first", x.restore(0), 1);
        check.due("hour", x.count(4), 2);
        check.due("cold", x.room(0, 0), 17);
        check.due("cold, room 1", x.room(1, 0), 3);
        check.due("open", x.count(6), 1);
        check.due("sits", x.sitter(0, 0), 0);
        check.due("no act can be undone", x.count(7), 0);
        check.due("none", x.undo(), STATE);
        x.hours(1);
        check.due("an act of its own", x.undo(), 0);
        check.due("on to the second", x.restore(1), 1);
        check.due("hour 5", x.count(4), 5);
        check.due("cold 47", x.room(0, 0), 47);
        check.due("shut", x.count(6), 0);
        check.due("sits in room 1", x.sitter(0, 0), 1);
        check.due("the first again", x.restore(0), 1);
        check.due("as it was", x.count(4), 2);
        check.due("kept anew", x.image(1), 1);
        x.hours(1);
        x.restore(1);
        check.due("in place of the second", x.count(4), 2);
    }

    private static void imagesOfOtherHouses() {
        ColdGuest x = Check.with("n3,1,10,5;d0,1,1;d1,2,0;r0,3;i2,4;");
        x.hours(1);
        x.image(0);
        x.row(0, 0, 3);
        Check.tell(x, "n1,0,7,1;p0,1;");
        x.drop(0);
        Check.feed(x, "n1");
        check.due("the house before", x.restore(0), 1);
        check.due("rooms", x.count(1), 3);
        check.due("doors", x.count(2), 2);
        check.due("sitters", x.count(3), 2);
        check.due("hour", x.count(4), 1);
        check.due("open", x.count(6), 1);
        check.due("kind", x.kind(1), 5);
        check.due("force", x.sitter(1, 1), 4);
        check.due("its parts: 18, less 4, and 4 more of ice", x.hours(1), 28);
        check.due("rows are none of the house", x.count(0), 0);
        check.due("nor is the tape", x.count(8), 2);
    }

    private static void kind() {
        ColdGuest x = new ColdGuest();
        check.due("no house", x.kind(0), BAD);
        Check.tell(x, "n1,0,0,0;i0,0;f0,0;t0,0;p0,0;r0,0;");
        for (int s = 0; s < 5; s++) {
            check.due("kind(" + s + ")", x.kind(s), 5 - s);
        }
        check.due("sitter 5", x.kind(5), BAD);
        check.due("sitter -1", x.kind(-1), BAD);
    }

    private static void as() {
        ColdGuest x = new ColdGuest();
        check.due("no house", x.as(0, 0), BAD);
        Check.tell(x, "n1,0,0,0;r0,0;p0,0;t0,0;f0,0;i0,0;");
        int[] kindsOf = {3, 7, 11, 17, 49};
        for (int s = 0; s < 5; s++) {
            for (int k = 0; k <= 5; k++) {
                boolean is = (kindsOf[s] >> k & 1) != 0;
                check.due("as(" + s + ", " + k + ")", x.as(s, k), is ? s : KIND);
                check.due("status behind it", x.status(), is ? 0 : 3);
            }
        }
        check.due("kind 6", x.as(0, 6), BAD);
        check.due("kind -1", x.as(0, -1), BAD);
        check.due("sitter 5", x.as(5, 0), BAD);
        check.due("sitter -1", x.as(-1, 0), BAD);
    }

    private static ColdGuest five() {
        return Check.with("n6,0,0,0;r5,1;p4,2;t3,3;f2,4;i1,5;");
    }

    private static void asked(ColdGuest x, int one, int what, int due, int... trace) {
        String call = "ask(" + one + ", " + what + ")";
        check.due(call, x.ask(one, what), due);
        for (int i = 0; i < trace.length; i++) {
            check.due(call + ": trace(" + i + ")", x.trace(i), trace[i]);
        }
        check.due(call + ": behind the trace", x.trace(trace.length), NONE);
        check.due(call + ": ahead of the trace", x.trace(-1), NONE);
    }

    private static void sizes() {
        ColdGuest x = five();
        asked(x, 0, 0, 1 + (0 + 5), 11, 10, 21, 20);
        asked(x, 1, 0, -(2 + 2 * (1 + 4)), 12, 11, 10, 24, 21, 20);
        asked(x, 2, 0, 3 + (2 + 3 - 1000), 11, 10, 22, 21, 20);
        asked(x, 3, 0, 4 - 100, 13, 10);
        asked(x, 4, 0, 2 * (5 - 100), 14, 13, 10);
    }

    private static void marks() {
        ColdGuest x = five();
        asked(x, 0, 1, 0 + 5, 21, 20);
        asked(x, 1, 1, 2 * (1 + 4), 24, 21, 20);
        asked(x, 2, 1, 2 + 3 - 1000, 22, 21, 20);
        asked(x, 3, 1, 3 - (4 - 100), 23, 20, 13, 10);
        asked(x, 4, 1, 4 - 2 * (5 - 100), 23, 20, 14, 13, 10);
        x.sit(0, 2);
        asked(x, 0, 1, 2, 21, 20);
    }

    private static void traceStays() {
        ColdGuest x = new ColdGuest();
        check.due("no house", x.ask(0, 0), BAD);
        check.due("empty", x.trace(0), NONE);
        x = five();
        x.ask(3, 0);
        check.due("what 2", x.ask(0, 2), BAD);
        check.due("what -1", x.ask(0, -1), BAD);
        check.due("sitter 5", x.ask(5, 0), BAD);
        check.due("sitter -1", x.ask(-1, 0), BAD);
        check.due("refused: the trace stays", x.trace(0), 13);
        check.due("all of it", x.trace(1), 10);
        check.due("16", x.trace(16), NONE);
        check.due("the most", x.trace(Integer.MAX_VALUE), NONE);
        check.due("the least", x.trace(Integer.MIN_VALUE), NONE);
    }

    private static void count() {
        ColdGuest x = Check.with("n3,1,10,5;d0,1,1;d1,2,0;d0,2,1;r0,3;i2,4;");
        x.row(3, 0, 0);
        x.row(7, 0, 1);
        x.row(7, 1, 1);
        x.hours(4);
        x.door(1, 1);
        x.undo();
        Check.feed(x, "xyz");
        int[] due = {2, 3, 3, 2, 4, 4 * 14, 5, 4, 3};
        for (int what = 0; what <= 8; what++) {
            check.due("count(" + what + ")", x.count(what), due[what]);
        }
        check.due("count(9)", x.count(9), BAD);
        check.due("count(-1)", x.count(-1), BAD);
    }
}

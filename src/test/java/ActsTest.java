/** Promises 9 to 15: hours, doors, sitters who move, all undone, and what there is to see. */
public final class ActsTest {
    private static final int BAD = ColdGuest.BAD, STATE = ColdGuest.STATE, FULL = ColdGuest.FULL;
    private static final Check check = new Check();

    public static void main(String[] args) {
        hoursRefused();
        hoursByDoors();
        hoursByKinds();
        hoursInOrder();
        hoursAtTheTop();
        hoursGone();
        door();
        sit();
        room();
        roomHeldByAny();
        doorHas();
        sitter();
        undo();
        undoOfTheOldest();
        refusedActsAreNone();
        check.end("ActsTest");
    }

    private static void cold(String what, ColdGuest x, int... due) {
        for (int r = 0; r < due.length; r++) {
            check.due(what + ", room " + r, x.room(r, 0), due[r]);
        }
    }

    private static void hoursRefused() {
        ColdGuest x = new ColdGuest();
        check.due("no house", x.hours(1), STATE);
        check.due("no house, ahead of BAD", x.hours(0), STATE);
        Check.tell(x, "n1,0,3,0;");
        check.due("0", x.hours(0), BAD);
        check.due("-1", x.hours(-1), BAD);
        check.due("25", x.hours(25), BAD);
        check.due("none is gone", x.count(4), 0);
        check.due("24", x.hours(24), 72);
        check.due("hour", x.count(4), 24);
    }

    private static void hoursByDoors() {
        ColdGuest x = Check.with("n2,0,10,5;d0,1,1;");
        check.due("an hour", x.hours(1), 10);
        cold("10: 2 go", x, 8, 2);
        check.due("two hours", x.hours(2), 30);
        cold("18 and 2: 4 go; 24 and 6: 4 go", x, 20, 10);
        ColdGuest back = Check.with("n2,1,10,5;d0,1,1;");
        back.hours(1);
        cold("from B to A", back, 2, 8);
        ColdGuest shut = Check.with("n2,0,10,5;d0,1,0;");
        shut.hours(3);
        cold("a shut door", shut, 30, 0);
        ColdGuest two = Check.with("n2,0,20,5;d0,1,1;d1,0,1;");
        two.hours(1);
        cold("20 and 0: 5 go; 15 and 5: 2 go", two, 13, 7);
        ColdGuest small = Check.with("n2,0,3,5;d0,1,1;");
        small.hours(1);
        cold("3 by 4 is cut to 0", small, 3, 0);
    }

    private static void hoursByKinds() {
        ColdGuest reader = Check.with("n2,0,10,5;d0,1,1;r0,3;");
        reader.hours(3);
        cold("held: 1 goes, 2, 3", reader, 24, 6);
        ColdGuest elsewhere = Check.with("n2,0,10,5;d0,1,1;r1,3;");
        elsewhere.hours(1);
        cold("held only where it goes from", elsewhere, 8, 2);
        ColdGuest pianist = Check.with("n2,0,10,5;d0,1,1;p0,3;");
        pianist.hours(2);
        cold("kept", pianist, 20, 0);
        ColdGuest keptElsewhere = Check.with("n2,0,10,5;d0,1,1;p1,3;");
        keptElsewhere.hours(1);
        cold("kept only where it goes from", keptElsewhere, 8, 2);
        ColdGuest talker = Check.with("n2,0,10,5;d0,1,1;t0,3;");
        talker.hours(1);
        cold("held, and warmer by 3", talker, 6, 1);
        talker.hours(1);
        cold("16 and 1: 1 goes; warmer by 3", talker, 12, 2);
        ColdGuest fire = Check.with("n2,0,10,5;d0,1,1;f0,2;");
        fire.hours(1);
        cold("not held, warmer by twice 2", fire, 4, 2);
        ColdGuest ice = Check.with("n2,0,10,5;d0,1,1;i0,2;");
        ice.hours(1);
        cold("not held, colder by 2", ice, 10, 2);
        ColdGuest both = Check.with("n2,0,10,5;d0,1,1;r0,3;p0,3;");
        both.hours(1);
        cold("held and kept: none goes", both, 10, 0);
        ColdGuest twoReaders = Check.with("n2,0,20,5;d0,1,1;r0,3;r0,3;");
        twoReaders.hours(1);
        cold("two hold as one does: 5, half 2", twoReaders, 18, 2);
    }

    private static void hoursInOrder() {
        ColdGuest there = Check.with("n3,0,20,9;d0,1,1;d1,2,1;");
        there.hours(1);
        cold("door by door, as cold as it is then", there, 15, 4, 1);
        ColdGuest back = Check.with("n3,0,20,9;d1,2,1;d0,1,1;");
        back.hours(1);
        cold("the other way", back, 15, 5, 0);
        ColdGuest fireFirst = Check.with("n1,0,10,5;f0,10;i0,7;");
        check.due("0 at least, then 7", fireFirst.hours(1), 7);
        ColdGuest iceFirst = Check.with("n1,0,10,5;i0,7;f0,10;");
        check.due("17, then 0 at least", iceFirst.hours(1), 0);
        ColdGuest warmAhead = Check.with("n2,0,10,5;d0,1,1;f0,5;");
        warmAhead.hours(1);
        cold("doors ahead of sitters", warmAhead, 0, 2);
    }

    private static void hoursAtTheTop() {
        ColdGuest x = Check.with("n1,0,40,99;");
        check.due("24 times 40", x.hours(24), 960);
        check.due("999 at most", x.hours(1), 999);
        check.due("and so on", x.hours(3), 999);
        ColdGuest ice = Check.with("n1,0,40,99;i0,20;");
        ice.hours(16);
        check.due("ice: 999 at most", ice.hours(1), 999);
        ColdGuest talker = Check.with("n1,0,40,99;i0,20;t0,1;");
        talker.hours(24);
        check.due("999, then less 1", talker.hours(1), 998);
        ColdGuest doors = Check.with("n2,0,40,99;d0,1,1;p1,0;i0,20;");
        doors.hours(24);
        doors.hours(24);
        doors.hours(24);
        check.due("into IN, ahead of the doors", doors.room(0, 0), 999);
    }

    private static void hoursGone() {
        ColdGuest x = Check.with("n1,0,0,0;");
        for (int i = 0; i < 41; i++) {
            x.hours(24);
        }
        check.due("984 are gone", x.count(4), 984);
        check.due("16 more", x.hours(16), FULL);
        check.due("BAD ahead of FULL", x.hours(25), BAD);
        check.due("984 still", x.count(4), 984);
        check.due("15 more", x.hours(15), 0);
        check.due("999", x.count(4), 999);
        check.due("one more", x.hours(1), FULL);
        check.due("undone", x.undo(), 23);
        check.due("998", x.count(4), 998);
        check.due("again", x.hours(1), 0);
        check.due("foretold all the same", x.ahead(60, 0), 0);
    }

    private static void door() {
        ColdGuest x = new ColdGuest();
        check.due("no house", x.door(0, 1), BAD);
        Check.tell(x, "n3,0,0,0;d0,1,1;d1,2,0;d0,2,1;");
        check.due("open already", x.door(0, 1), STATE);
        check.due("shut already", x.door(1, 0), STATE);
        check.due("BAD ahead of STATE", x.door(1, 2), BAD);
        check.due("on -1", x.door(1, -1), BAD);
        check.due("door 3", x.door(3, 0), BAD);
        check.due("door -1", x.door(-1, 0), BAD);
        check.due("acts", x.count(7), 0);
        check.due("opened", x.door(1, 1), 7);
        check.due("shut", x.door(0, 0), 6);
        check.due("shut too", x.door(2, 0), 2);
        check.due("open ones", x.count(6), 2);
        check.due("acts then", x.count(7), 3);
        check.due("its OPEN", x.doorHas(2, 2), 0);
    }

    private static void sit() {
        ColdGuest x = new ColdGuest();
        check.due("no house", x.sit(0, 0), BAD);
        Check.tell(x, "n3,0,0,0;r1,0;p2,0;");
        check.due("there already", x.sit(0, 1), STATE);
        check.due("sitter 2", x.sit(2, 0), BAD);
        check.due("sitter -1", x.sit(-1, 0), BAD);
        check.due("room 3", x.sit(0, 3), BAD);
        check.due("room -1", x.sit(0, -1), BAD);
        check.due("acts", x.count(7), 0);
        check.due("from 1", x.sit(0, 2), 1);
        check.due("from 2", x.sit(0, 0), 2);
        check.due("where it is", x.sitter(0, 0), 0);
        check.due("the other one", x.sitter(1, 0), 2);
        check.due("acts then", x.count(7), 2);
        ColdGuest moves = Check.with("n2,0,10,5;d0,1,1;p0,3;");
        moves.sit(0, 1);
        moves.hours(1);
        cold("kept no more", moves, 8, 2);
    }

    private static void room() {
        ColdGuest x = new ColdGuest();
        check.due("no house", x.room(0, 0), STATE);
        check.due("no house, ahead of BAD", x.room(9, 9), STATE);
        Check.tell(x, "n4,1,7,0;d0,1,1;d1,2,0;d2,1,1;r0,1;t1,0;p1,0;f2,3;i2,3;");
        check.due("room 4", x.room(4, 0), BAD);
        check.due("room -1", x.room(-1, 0), BAD);
        check.due("what 5", x.room(0, 5), BAD);
        check.due("what -1", x.room(0, -1), BAD);
        x.hours(1);
        check.due("cold", x.room(1, 0), 7);
        int[][] due = {{1, 1, 0, 1}, {6, 1, 1, 7}, {24, 0, 0, 6}, {0, 0, 0, 0}};
        for (int r = 0; r < 4; r++) {
            for (int what = 1; what <= 4; what++) {
                check.due("room(" + r + ", " + what + ")", x.room(r, what), due[r][what - 1]);
            }
        }
    }

    private static void roomHeldByAny() {
        int[][] due = {{1, 0}, {1, 1}, {1, 0}, {0, 0}, {0, 0}};
        for (int k = 0; k < 5; k++) {
            ColdGuest x = Check.with("n1,0,0,0;" + "rptfi".charAt(k) + "0,1;");
            check.due("holds, kind " + (k + 1), x.room(0, 2), due[k][0]);
            check.due("keeps, kind " + (k + 1), x.room(0, 3), due[k][1]);
        }
    }

    private static void doorHas() {
        ColdGuest x = new ColdGuest();
        check.due("no house", x.doorHas(0, 0), BAD);
        Check.tell(x, "n4,1,7,0;d3,1,1;d1,2,0;");
        check.due("A", x.doorHas(0, 0), 3);
        check.due("B", x.doorHas(0, 1), 1);
        check.due("open", x.doorHas(0, 2), 1);
        check.due("shut", x.doorHas(1, 2), 0);
        check.due("what 3", x.doorHas(0, 3), BAD);
        check.due("what -1", x.doorHas(0, -1), BAD);
        check.due("door 2", x.doorHas(2, 0), BAD);
        check.due("door -1", x.doorHas(-1, 0), BAD);
    }

    private static void sitter() {
        ColdGuest x = new ColdGuest();
        check.due("no house", x.sitter(0, 0), BAD);
        Check.tell(x, "n2,1,7,14;r1,13;f0,20;");
        check.due("room", x.sitter(0, 0), 1);
        check.due("force", x.sitter(0, 1), 13);
        check.due("force of the other", x.sitter(1, 1), 20);
        x.hours(2);
        check.due("14 is not above 14", x.sitter(0, 2), 0);
        x.hours(1);
        check.due("21 is", x.sitter(0, 2), 1);
        check.due("the other is warm", x.sitter(1, 2), 0);
        check.due("what 3", x.sitter(0, 3), BAD);
        check.due("what -1", x.sitter(0, -1), BAD);
        check.due("sitter 2", x.sitter(2, 0), BAD);
        check.due("sitter -1", x.sitter(-1, 0), BAD);
    }

    private static void undo() {
        ColdGuest x = new ColdGuest();
        check.due("no house", x.undo(), STATE);
        Check.tell(x, "n2,0,10,5;d0,1,1;r0,3;");
        check.due("none", x.undo(), STATE);
        x.hours(2);
        x.door(0, 0);
        x.sit(0, 1);
        x.hours(1);
        cold("ahead of all", x, 27, 3);
        check.due("the hour", x.undo(), 4);
        cold("17, 3", x, 17, 3);
        check.due("hour 2", x.count(4), 2);
        check.due("the sitter", x.undo(), 3);
        check.due("in room 0", x.sitter(0, 0), 0);
        check.due("shut still", x.count(6), 0);
        check.due("the door", x.undo(), 2);
        check.due("open again", x.count(6), 1);
        check.due("cold stays", x.count(5), 20);
        check.due("an hour of two", x.undo(), 1);
        cold("9, 1", x, 9, 1);
        check.due("the other", x.undo(), 0);
        check.due("no cold", x.count(5), 0);
        check.due("hour 0", x.count(4), 0);
        check.due("none any more", x.undo(), STATE);
        check.due("anew", x.hours(1), 10);
        check.due("one act", x.count(7), 1);
    }

    private static void undoOfTheOldest() {
        ColdGuest x = Check.with("n2,0,1,0;d0,1,0;r0,3;");
        x.sit(0, 1);
        x.door(0, 1);
        x.door(0, 0);
        check.due("3 acts", x.count(7), 3);
        x.hours(23);
        check.due("24 at most", x.count(7), 24);
        for (int left = 23; left >= 1; left--) {
            check.due("undone", x.undo(), left);
        }
        check.due("hour 0", x.count(4), 0);
        check.due("shut", x.count(6), 0);
        check.due("the latest door", x.undo(), 0);
        check.due("open", x.count(6), 1);
        check.due("the older ones are forgotten", x.undo(), STATE);
        check.due("it sits where it went", x.sitter(0, 0), 1);
        x.hours(24);
        x.hours(24);
        check.due("24 again", x.count(7), 24);
        for (int left = 23; left >= 0; left--) {
            check.due("undone again", x.undo(), left);
        }
        check.due("24 of 48", x.count(4), 24);
        check.due("cold of 24", x.count(5), 24);
    }

    private static void refusedActsAreNone() {
        ColdGuest x = Check.with("n2,0,1,0;d0,1,0;r0,3;");
        x.hours(0);
        x.door(0, 0);
        x.sit(0, 0);
        x.door(1, 1);
        x.sit(0, 2);
        check.due("no act", x.count(7), 0);
        check.due("none to undo", x.undo(), STATE);
    }
}

/** Promises 16 to 28: what is foretold, and that nothing changes by it. */
public final class ForetoldTest {
    private static final int NONE = ColdGuest.NONE, BAD = ColdGuest.BAD, STATE = ColdGuest.STATE;
    private static final int NULL = -1000011, PLACE = -1000012;
    private static final Check check = new Check();

    public static void main(String[] args) {
        withoutAHouse();
        ahead();
        allAhead();
        shivers();
        moved();
        movedRefused();
        sitWhere();
        led();
        ledRefused();
        came();
        who();
        parted();
        coldest();
        guest();
        wind();
        windOfManyDoors();
        drawn();
        theLargestHouse();
        nothingChanges();
        check.end("ForetoldTest");
    }

    private static void withoutAHouse() {
        ColdGuest x = new ColdGuest();
        check.due("ahead", x.ahead(-1, 9), STATE);
        check.due("allAhead", x.allAhead(61), STATE);
        check.due("shivers", x.shivers(2), STATE);
        check.due("moved", x.moved(-1, -1, 0, 0, 2), STATE);
        check.due("sitWhere", x.sitWhere(0, 0, 1, 0), BAD);
        check.due("led", x.led(9, 0, 2), STATE);
        check.due("came", x.came(8, 0, 0), STATE);
        check.due("who", x.who(0, 0, 0, 1), BAD);
        check.due("parted", x.parted(9, 9, 2), STATE);
        check.due("coldest", x.coldest(61, 2), STATE);
        check.due("guest", x.guest(9), STATE);
        check.due("wind", x.wind(9, 11, 2), STATE);
        check.due("drawn", x.drawn(61, 0, 2), STATE);
    }

    private static void ahead() {
        ColdGuest x = Check.with("n2,0,10,5;d0,1,1;");
        int[][] due = {{0, 0}, {8, 2}, {14, 6}, {20, 10}, {25, 15}};
        for (int n = 0; n < due.length; n++) {
            check.due("room 0", x.ahead(n, 0), due[n][0]);
            check.due("room 1", x.ahead(n, 1), due[n][1]);
        }
        check.due("60", x.ahead(60, 0) + x.ahead(60, 1), 600);
        check.due("61", x.ahead(61, 0), BAD);
        check.due("-1", x.ahead(-1, 0), BAD);
        check.due("room 2", x.ahead(1, 2), BAD);
        check.due("room -1", x.ahead(1, -1), BAD);
        x.hours(1);
        check.due("from now on", x.ahead(1, 1), 6);
        check.due("now", x.ahead(0, 1), 2);
    }

    private static void allAhead() {
        ColdGuest x = Check.with("n2,0,10,5;d0,1,1;f1,1;");
        check.due("0", x.allAhead(0), 0);
        check.due("8 and 0", x.allAhead(1), 8);
        check.due("18 and 0: 4 go; 14 and 2", x.allAhead(2), 16);
        check.due("61", x.allAhead(61), BAD);
        check.due("-1", x.allAhead(-1), BAD);
        ColdGuest top = Check.with("n1,0,40,5;");
        check.due("60", top.allAhead(60), 999);
    }

    private static void shivers() {
        ColdGuest x = Check.with("n2,0,10,15;d0,1,0;f1,0;r0,0;p0,0;");
        check.due("20 is above 15", x.shivers(0), 2);
        check.due("the first of two", x.shivers(1), 1);
        check.due("what 2", x.shivers(2), BAD);
        check.due("what -1", x.shivers(-1), BAD);
        x.hours(2);
        check.due("now", x.shivers(0), 0);
        check.due("who now", x.shivers(1), 1);
        ColdGuest edge = Check.with("n1,0,1,59;r0,0;");
        check.due("60 at most", edge.shivers(0), 60);
        check.due("who, behind 60", edge.shivers(1), 0);
        ColdGuest late = Check.with("n1,0,1,60;r0,0;");
        check.due("61 is too late", late.shivers(0), NONE);
        check.due("nobody", late.shivers(1), NONE);
        ColdGuest empty = Check.with("n1,0,40,0;");
        check.due("no sitters", empty.shivers(0), NONE);
        check.due("no sitters, who", empty.shivers(1), NONE);
    }

    private static void moved(String what, ColdGuest x, int[] call, int count, int which) {
        check.due(what + ", how many", x.moved(call[0], call[1], call[2], call[3], 0), count);
        check.due(what + ", which", x.moved(call[0], call[1], call[2], call[3], 1), which);
    }

    private static int[] call(int cold, int warm, int t, int n) {
        return new int[] {cold, warm, t, n};
    }

    private static void moved() {
        ColdGuest x = Check.with("n3,0,40,9;d0,1,0;d0,1,0;d1,2,1;d0,2,0;");
        moved("as it is", x, call(1, 6, 10, 1), 0, 0);
        moved("none told", x, call(0, 0, 10, 1), 0, 0);
        moved("room 1 cold: door 0 or 1, 10 go, less 2", x, call(2, 0, 8, 1), 1, 1);
        moved("room 1 of 10: door 2 shut too", x, call(2, 0, 10, 1), 2, 3);
        moved("room 2 cold by door 3", x, call(4, 0, 10, 1), 1, 8);
        moved("rooms 1 and 2", x, call(6, 0, 8, 1), 2, 9);
        moved("room 1 of 15", x, call(2, 0, 15, 1), 3, 7);
        moved("room 1 cold, 2 warm", x, call(2, 4, 2, 1), 2, 5);
        moved("never", x, call(6, 0, 30, 1), NONE, NONE);
        moved("t is cold", x, call(1, 0, 40, 1), 0, 0);
        moved("t more is not", x, call(1, 0, 41, 1), NONE, NONE);
        moved("below t is warm", x, call(0, 1, 41, 1), 0, 0);
        moved("t is not warm", x, call(0, 1, 40, 1), 1, 1);
        moved("a day", x, call(7, 0, 200, 24), 1, 1);
        ColdGuest shut = Check.with("n2,0,20,9;d0,1,1;");
        moved("an open one is shut", shut, call(0, 2, 1, 3), 1, 1);
    }

    private static void movedRefused() {
        ColdGuest x = Check.with("n2,0,40,9;d0,1,0;");
        check.due("no such room, cold", x.moved(4, 0, 1, 1, 0), BAD);
        check.due("no such room, warm", x.moved(0, 4, 1, 1, 0), BAD);
        check.due("cold -1", x.moved(-1, 0, 1, 1, 0), BAD);
        check.due("warm -1", x.moved(0, -1, 1, 1, 0), BAD);
        check.due("the least of all", x.moved(Integer.MIN_VALUE, 0, 1, 1, 0), BAD);
        check.due("as both", x.moved(3, 2, 1, 1, 0), BAD);
        check.due("t 0", x.moved(1, 0, 0, 1, 0), BAD);
        check.due("t 1000", x.moved(1, 0, 1000, 1, 0), BAD);
        check.due("t 999", x.moved(1, 0, 999, 1, 0), NONE);
        check.due("n 0", x.moved(1, 0, 1, 0, 0), BAD);
        check.due("n 25", x.moved(1, 0, 1, 25, 0), BAD);
        check.due("what 2", x.moved(1, 0, 1, 1, 2), BAD);
        check.due("what -1", x.moved(1, 0, 1, 1, -1), BAD);
    }

    private static void sitWhere() {
        ColdGuest fire = Check.with("n3,0,20,9;d0,1,1;f2,2;");
        check.due("a fire by the cold", fire.sitWhere(0, 0, 1, 0), 0);
        check.due("15 less 4", fire.sitWhere(0, 0, 1, 1), 11);
        check.due("room 1: sit there", fire.sitWhere(0, 1, 1, 0), 1);
        check.due("5 less 4", fire.sitWhere(0, 1, 1, 1), 1);
        check.due("room 2: anywhere, the first", fire.sitWhere(0, 2, 1, 0), 0);
        check.due("room 2: none", fire.sitWhere(0, 2, 1, 1), 0);
        ColdGuest pianist = Check.with("n2,0,20,9;d0,1,1;p1,0;");
        check.due("kept in room 0", pianist.sitWhere(0, 1, 24, 0), 0);
        check.due("none comes", pianist.sitWhere(0, 1, 24, 1), 0);
        check.due("room 0: let it go", pianist.sitWhere(0, 0, 1, 0), 1);
        check.due("15 stay", pianist.sitWhere(0, 0, 1, 1), 15);
        check.due("sitter 1", pianist.sitWhere(1, 0, 1, 0), BAD);
        check.due("sitter -1", pianist.sitWhere(-1, 0, 1, 0), BAD);
        check.due("room 2", pianist.sitWhere(0, 2, 1, 0), BAD);
        check.due("room -1", pianist.sitWhere(0, -1, 1, 0), BAD);
        check.due("n 0", pianist.sitWhere(0, 0, 0, 0), BAD);
        check.due("n 25", pianist.sitWhere(0, 0, 25, 0), BAD);
        check.due("what 2", pianist.sitWhere(0, 0, 1, 2), BAD);
        check.due("what -1", pianist.sitWhere(0, 0, 1, -1), BAD);
    }

    private static void led(String what, ColdGuest x, int room, int t, int hours, int by) {
        check.due(what + ", how many", x.led(room, t, 0), hours);
        check.due(what + ", by whom", x.led(room, t, 1), by);
    }

    private static void led() {
        ColdGuest ice = Check.with("n3,0,10,9;r0,0;i1,20;");
        led("10 an hour", ice, 0, 10, 1, NONE);
        led("10 and 20 an hour", ice, 0, 30, 1, 10);
        led("11: two hours, or one with ice", ice, 0, 11, 1, 10);
        led("where the ice is", ice, 1, 20, 1, NONE);
        led("the ice goes there", ice, 2, 21, 2, 12);
        led("40 hours", ice, 2, 800, 40, 12);
        led("41 are too many", ice, 2, 801, NONE, NONE);
        ColdGuest two = Check.with("n2,0,20,9;d0,1,1;p0,0;i0,1;p0,0;");
        led("both keep it: no one alone leads it", two, 1, 2, 2, 11);
        ColdGuest first = Check.with("n3,0,20,9;d0,1,1;r0,0;");
        led("the first room of several", first, 1, 5, 1, 1);
        led("none moves, where that is as soon", first, 1, 2, 1, NONE);
        ColdGuest late = Check.with("n3,0,20,9;d0,1,1;r0,0;p2,0;r0,0;");
        led("as soon without", late, 0, 14, 1, NONE);
        led("the pianist comes and keeps it", late, 0, 20, 1, 10);
        ColdGuest now = Check.with("n2,0,20,9;r0,0;");
        now.hours(2);
        led("now", now, 0, 40, 0, NONE);
        led("in an hour", now, 0, 41, 1, NONE);
        led("never", now, 1, 1, NONE, NONE);
        ColdGuest alone = Check.with("n1,0,25,0;");
        led("no sitters", alone, 0, 999, 40, NONE);
        ColdGuest slower = Check.with("n1,0,24,0;");
        led("960 behind 40", slower, 0, 961, NONE, NONE);
    }

    private static void ledRefused() {
        ColdGuest x = Check.with("n2,0,20,9;r0,0;");
        check.due("room 2", x.led(2, 1, 0), BAD);
        check.due("room -1", x.led(-1, 1, 0), BAD);
        check.due("t 0", x.led(0, 0, 0), BAD);
        check.due("t 1000", x.led(0, 1000, 0), BAD);
        check.due("what 2", x.led(0, 1, 2), BAD);
        check.due("what -1", x.led(0, 1, -1), BAD);
    }

    private static void came() {
        ColdGuest x = Check.with("n2,0,10,5;d0,1,1;");
        Check.lay(x, 0, 9, 8, 2, 14, 6, 20, 10);
        check.due("as it is", x.came(0, 1, 1), 1);
        check.due("three hours", x.came(0, 1, 3), 1);
        check.due("from 0: no", x.came(0, 0, 1), 0);
        Check.lay(x, 1, 2, 8, 6, 14, 10, 21);
        check.due("into the other", x.came(1, 0, 2), 2);
        check.due("the third hour is not so", x.came(1, 0, 3), 0);
        x.row(2, 0, 2);
        x.set(2, 0, 8);
        x.set(2, 1, 2);
        check.due("by a row of bytes", x.came(2, 0, 1), 1);
        ColdGuest none = Check.with("n3,0,0,5;d0,1,1;");
        none.row(0, 1, 18);
        check.due("no parts: any", none.came(0, 0, 6), 7);
        check.due("n 0", none.came(0, 0, 0), BAD);
        check.due("n 7", none.came(0, 0, 7), BAD);
        check.due("row 8", none.came(8, 0, 1), BAD);
        check.due("row -1", none.came(-1, 0, 1), BAD);
        check.due("BAD ahead of NULL", none.came(1, 0, 7), BAD);
        check.due("missing", none.came(1, 0, 1), NULL);
        check.due("NULL ahead of PLACE", none.came(1, -1, 1), NULL);
        check.due("i -1", none.came(0, -1, 1), PLACE);
        check.due("beyond the end", none.came(0, 1, 6), PLACE);
        check.due("up to the end", none.came(0, 3, 5), 7);
        check.due("far beyond", none.came(0, Integer.MAX_VALUE, 6), PLACE);
        none.hours(1);
        check.due("from now on", none.came(0, 0, 1), 7);
    }

    private static void who() {
        ColdGuest x = Check.with("n2,0,16,5;d0,1,1;r0,0;");
        Check.lay(x, 0, 14, 2, 12, 4, 16, 0);
        check.due("held: reader, talker of no force", x.who(0, 0, 0, 1), 2 | 8);
        check.due("let go: fire, ice of no force", x.who(0, 0, 2, 1), 16 | 32);
        check.due("kept: pianist", x.who(0, 0, 4, 1), 4);
        check.due("no kind", x.who(0, 0, 0, 2), 0);
        ColdGuest force = Check.with("n2,0,16,5;d0,1,1;p0,3;f1,1;");
        Check.lay(force, 0, 15, 2);
        check.due("12 and 3; 4 less 2", force.who(0, 0, 0, 1), 32);
        Check.lay(force, 0, 16, 1, 32, 2, 48, 3);
        check.due("the fire is ice", force.who(1, 0, 0, 3), 32);
        check.due("sitter 2", force.who(2, 0, 0, 1), BAD);
        check.due("sitter -1", force.who(-1, 0, 0, 1), BAD);
        check.due("row 8", force.who(0, 8, 0, 1), BAD);
        check.due("row -1", force.who(0, -1, 0, 1), BAD);
        check.due("n 0", force.who(0, 0, 0, 0), BAD);
        check.due("n 7", force.who(0, 0, 0, 7), BAD);
        check.due("missing", force.who(0, 1, 0, 1), NULL);
        check.due("NULL ahead of PLACE", force.who(0, 1, -1, 1), NULL);
        check.due("i -1", force.who(0, 0, -1, 1), PLACE);
        check.due("beyond the end", force.who(0, 0, 1, 3), PLACE);
        check.due("its kind stays", force.kind(0), 2);
    }

    private static void parted(String what, ColdGuest x, int a, int b, int count, int which) {
        check.due(what + ", how many", x.parted(a, b, 0), count);
        check.due(what + ", which", x.parted(a, b, 1), which);
        check.due(what + ", back", x.parted(b, a, 1), which);
    }

    private static void parted() {
        ColdGuest x = Check.with("n5,0,0,0;d0,1,1;d0,1,1;d1,2,1;d2,3,0;d3,2,1;d0,3,1;");
        parted("0 and 1: two doors, and the way round", x, 0, 1, 3, 7);
        parted("1 and 2: its door, and the way round", x, 1, 2, 2, 20);
        parted("0 and 2", x, 0, 2, 2, 20);
        parted("4 is apart", x, 0, 4, 0, 0);
        parted("the same room", x, 3, 3, NONE, NONE);
        x.door(5, 0);
        parted("2 and 3: its open door", x, 2, 3, 1, 16);
        parted("0 and 3", x, 0, 3, 1, 4);
        ColdGuest all = Check.with("n2,0,0,0;" + "d0,1,1;".repeat(8));
        parted("eight doors", all, 0, 1, 8, 255);
        check.due("what 2", x.parted(0, 1, 2), BAD);
        check.due("what 2 of the same", x.parted(0, 0, 2), BAD);
        check.due("what -1", x.parted(0, 1, -1), BAD);
        check.due("a 5", x.parted(5, 0, 0), BAD);
        check.due("b 5", x.parted(0, 5, 0), BAD);
        check.due("a -1", x.parted(-1, 0, 0), BAD);
        check.due("b -1", x.parted(0, -1, 0), BAD);
        ColdGuest one = Check.with("n1,0,0,0;");
        parted("one room", one, 0, 0, NONE, NONE);
    }

    private static void coldest() {
        ColdGuest x = Check.with("n3,2,10,5;d2,1,1;i0,8;");
        check.due("all warm: the first", x.coldest(0, 0), 0);
        check.due("all warm: none", x.coldest(0, 1), 0);
        check.due("8, 2 and 8: the first", x.coldest(1, 0), 0);
        check.due("8", x.coldest(1, 1), 8);
        check.due("16, 6 and 14", x.coldest(2, 1), 16);
        ColdGuest middle = Check.with("n3,1,10,5;");
        check.due("room 1", middle.coldest(1, 0), 1);
        check.due("10", middle.coldest(1, 1), 10);
        ColdGuest last = Check.with("n3,2,10,5;");
        check.due("room 2", last.coldest(60, 0), 2);
        check.due("600", last.coldest(60, 1), 600);
        check.due("n 61", last.coldest(61, 0), BAD);
        check.due("n -1", last.coldest(-1, 0), BAD);
        check.due("what 2", last.coldest(1, 2), BAD);
        check.due("what -1", last.coldest(1, -1), BAD);
    }

    private static void guest() {
        ColdGuest x = Check.with("n6,0,0,0;d4,3,1;d3,2,1;d2,1,1;d1,0,0;d5,0,1;");
        int[] due = {33, 30, 30, 30, 30, 33};
        for (int r = 0; r < 6; r++) {
            check.due("guest(" + r + ")", x.guest(r), due[r]);
        }
        check.due("room 6", x.guest(6), BAD);
        check.due("room -1", x.guest(-1), BAD);
        x.door(3, 1);
        check.due("by five doors", x.guest(5), 63);
        check.due("by five doors, back", x.guest(4), 63);
        ColdGuest alone = Check.with("n2,0,0,0;");
        check.due("itself", alone.guest(1), 2);
    }

    private static void wind(String what, ColdGuest x, int room, int p, long above, long below) {
        check.due(what + ", above", x.wind(room, p, 0), above);
        check.due(what + ", below", x.wind(room, p, 1), below);
    }

    private static void wind() {
        ColdGuest x = Check.with("n3,0,20,4;d0,1,1;d1,2,1;d0,2,0;");
        wind("room 0 is cold anyway", x, 0, 3, 1, 1);
        // door 0 open: 15 and 5; door 1 open then: 4 and 1
        wind("room 1: door 0 open, door 1 shut", x, 1, 3, 21, 100);
        wind("by 5 of 10", x, 1, 5, 1, 4);
        wind("by none", x, 1, 0, 0, 1);
        wind("by all", x, 1, 10, 0, 1);
        wind("room 2 is never", x, 2, 3, 0, 1);
        ColdGuest limit = Check.with("n2,0,20,14;d0,1,1;");
        wind("15 and 20 are above 14", limit, 0, 4, 1, 1);
        ColdGuest edge = Check.with("n2,0,20,15;d0,1,1;");
        wind("15 is not above 15", edge, 0, 4, 2, 5);
        wind("shut for certain", edge, 0, 10, 1, 1);
        wind("open for certain", edge, 0, 0, 0, 1);
        check.due("room 3", x.wind(3, 5, 0), BAD);
        check.due("room -1", x.wind(-1, 5, 0), BAD);
        check.due("p 11", x.wind(0, 11, 0), BAD);
        check.due("p -1", x.wind(0, -1, 0), BAD);
        check.due("what 2", x.wind(0, 5, 2), BAD);
        check.due("what -1", x.wind(0, 5, -1), BAD);
        ColdGuest one = Check.with("n1,0,5,4;");
        wind("no doors, cold", one, 0, 5, 1, 1);
    }

    private static void windOfManyDoors() {
        ColdGuest x = Check.with("n2,0,40,39;" + "d0,1,1;".repeat(8));
        wind("cold only with all shut", x, 0, 3, 6561, 100000000);
        wind("by 9", x, 0, 9, 43046721, 100000000);
        ColdGuest any = Check.with("n2,0,40,0;" + "d0,1,1;".repeat(8));
        wind("cold but with all shut", any, 1, 1, 99999999, 100000000);
        wind("by 5", any, 1, 5, 255, 256);
    }

    private static void drawn(String what, ColdGuest x, int n, int seed, int cold, int shivered) {
        check.due(what + ", cold", x.drawn(n, seed, 0), cold);
        check.due(what + ", how many", x.drawn(n, seed, 1), shivered);
    }

    private static void drawn() {
        // seed 1: 16807, 282475249, 1622650073: the odd ones move door 1 of two
        ColdGuest x = Check.with("n2,0,20,4;d0,1,0;d0,1,1;f1,1;r1,0;");
        drawn("none", x, 0, 1, 0, 0);
        drawn("door 1 shut: 20 and 0", x, 1, 1, 20, 0);
        // 40 and 0: 10 go, less 2: 30 and 8
        drawn("door 1 open again", x, 2, 1, 38, 1);
        // shut: 50, 6
        drawn("shut once more", x, 3, 1, 56, 2);
        // the same draws of three doors move 1, 1 and 2
        ColdGuest three = Check.with("n4,0,20,9;d0,1,0;d0,2,0;d0,3,0;i1,1;f2,1;f3,2;");
        drawn("door 1 opened: 15, 1, 3", three, 1, 1, 19, 0);
        drawn("door 1 shut: 35, 2, 1", three, 2, 1, 38, 0);
        drawn("door 2 opened: 55, less 13, and 3, 0, 9", three, 3, 1, 54, 0);
        ColdGuest one = Check.with("n2,0,20,4;d0,1,0;f1,0;");
        drawn("one door: opened", one, 1, 5, 20, 1);
        drawn("one door: 35 and 5", one, 2, 5, 40, 2);
        ColdGuest none = Check.with("n1,0,10,15;r0,0;");
        drawn("no doors: hours all the same", none, 4, 7, 40, 3);
        drawn("60", none, 60, 999999, 600, 59);
        check.due("n 61", none.drawn(61, 1, 0), BAD);
        check.due("n -1", none.drawn(-1, 1, 0), BAD);
        check.due("seed 0", none.drawn(1, 0, 0), BAD);
        check.due("seed 1000000", none.drawn(1, 1000000, 0), BAD);
        check.due("what 2", none.drawn(1, 1, 2), BAD);
        check.due("what -1", none.drawn(1, 1, -1), BAD);
    }

    /** The most there can be of all: 6 rooms in a ring, 8 doors, 5 sitters of no force. */
    private static void theLargestHouse() {
        ColdGuest x = Check.with("n6,5,16,3;d5,0,1;d0,1,1;d1,2,1;d2,3,1;d3,4,1;d4,5,1;d5,3,0;d5,1,0;"
            + "f0,0;f1,0;f2,0;f3,0;i5,0;");
        int[] hour = {3, 1, 0, 0, 3, 9};
        for (int r = 0; r < 6; r++) {
            check.due("room " + r, x.ahead(1, r), hour[r]);
        }
        check.due("all", x.allAhead(1), 16);
        check.due("shivers now or then", x.shivers(0), 1);
        check.due("who", x.shivers(1), 4);
        moved("as it is", x, call(49, 14, 2, 1), 0, 0);
        moved("all doors", x, call(63, 0, 999, 1), NONE, NONE);
        check.due("anywhere", x.sitWhere(4, 5, 1, 0), 0);
        check.due("9", x.sitWhere(4, 5, 1, 1), 9);
        led("no force moves it", x, 5, 9, 1, NONE);
        led("never so cold", x, 5, 999, NONE, NONE);
        Check.lay(x, 0, hour);
        check.due("into room 5", x.came(0, 0, 1), 32);
        check.due("who: fire, ice", x.who(4, 0, 0, 1), 48);
        parted("the ring: doors 0 and 3", x, 5, 2, 2, 9);
        check.due("coldest", x.coldest(1, 0), 5);
        check.due("guest", x.guest(3), 63);
        wind("room 0: door 0 open, door 1 shut", x, 0, 4, 6, 25);
        wind("room 5", x, 5, 4, 1, 1);
        check.due("drawn", x.drawn(3, 77, 0), 48);
    }

    private static void nothingChanges() {
        ColdGuest x = Check.with("n3,0,20,4;d0,1,1;d1,2,1;d0,2,0;f1,1;r2,0;");
        Check.lay(x, 0, 1, 2, 3);
        x.hours(2);
        long before = sum(x);
        x.ahead(9, 0);
        x.allAhead(9);
        x.shivers(0);
        x.moved(4, 1, 40, 9, 0);
        x.sitWhere(0, 0, 9, 0);
        x.led(2, 90, 0);
        x.came(0, 0, 1);
        x.who(0, 0, 0, 1);
        x.parted(0, 2, 0);
        x.coldest(9, 0);
        x.guest(0);
        x.wind(0, 5, 0);
        x.drawn(9, 9, 0);
        check.due("all is as it was", sum(x), before);
    }

    private static long sum(ColdGuest x) {
        long sum = 0;
        for (int what = 0; what <= 8; what++) {
            sum = sum * 31 + x.count(what);
        }
        for (int r = 0; r < 3; r++) {
            for (int what = 0; what <= 4; what++) {
                sum = sum * 31 + x.room(r, what);
            }
        }
        for (int s = 0; s < 2; s++) {
            sum = sum * 31 + x.kind(s) * 7 + x.sitter(s, 0);
        }
        return sum;
    }
}

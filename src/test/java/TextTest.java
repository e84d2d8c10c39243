/** Promises 1 and 6 to 8: a new object, the tape, houses and faults. */
public final class TextTest {
    private static final int BAD = ColdGuest.BAD, STATE = ColdGuest.STATE, FULL = ColdGuest.FULL;
    private static final Check check = new Check();

    public static void main(String[] args) {
        newObject();
        feed();
        soundHouses();
        faultsOfLaw();
        faultsOfDoors();
        faultsOfSitters();
        everyByte();
        everyPrefix();
        whatEndsWithTheTape();
        whatAFaultLeaves();
        whatAHouseReplaces();
        check.end("TextTest");
    }

    private static void newObject() {
        ColdGuest x = new ColdGuest();
        for (int what = 0; what <= 8; what++) {
            check.due("count(" + what + ")", x.count(what), 0);
        }
        check.due("fault", x.fault(), 0);
        check.due("status", x.status(), 0);
        check.due("undo", x.undo(), STATE);
        check.due("room", x.room(0, 0), STATE);
        check.due("trace", x.trace(0), ColdGuest.NONE);
        check.due("NONE", ColdGuest.NONE, -1000000);
        check.due("BAD", BAD, -1000001);
        check.due("STATE", STATE, -1000002);
        check.due("FULL", FULL, -1000003);
        ColdGuest other = Check.with("n3,0,1,1;");
        check.due("objects are apart", x.count(1), 0);
        check.due("the other one", other.count(1), 3);
    }

    private static void feed() {
        ColdGuest x = new ColdGuest();
        check.due("-1", x.feed(-1), BAD);
        check.due("256", x.feed(256), BAD);
        check.due("0", x.feed(0), 1);
        check.due("255", x.feed(255), 2);
        for (int i = 3; i <= 120; i++) {
            check.due("byte " + i, x.feed('n'), i);
        }
        check.due("the 121st", x.feed('n'), FULL);
        check.due("BAD ahead of FULL", x.feed(256), BAD);
        check.due("bytes", x.count(8), 120);
        check.due("read", x.house(), -1000100);
        check.due("empty then", x.count(8), 0);
        check.due("from the front", x.feed('n'), 1);
    }

    private static void sound(String text, int sitters) {
        check.due(text, Check.tell(new ColdGuest(), text), sitters);
    }

    private static void soundHouses() {
        sound("n1,0,0,0;", 0);
        sound("n01,00,00,00;", 0);
        sound("n6,5,40,99;", 0);
        sound("n2,0,0,0;d0,1,0;d0,1,1;d1,0,01;", 0);
        sound("n1,0,0,0;r0,0;p0,1;t0,9;f0,10;i0,20;", 5);
        sound("n2,0,0,0;d0,1,0;r0,0;", 1);
        sound("n2,0,0,0;" + "d0,1,1;".repeat(8) + "i1,20;".repeat(5), 5);
        ColdGuest x = Check.with("n3,2,7,5;d0,1,0;d2,1,1;t1,4;i2,9;");
        check.due("rooms", x.count(1), 3);
        check.due("doors", x.count(2), 2);
        check.due("sitters", x.count(3), 2);
        check.due("open", x.count(6), 2);
        check.due("A", x.doorHas(1, 0), 2);
        check.due("B", x.doorHas(1, 1), 1);
        check.due("room", x.sitter(1, 0), 2);
        check.due("force", x.sitter(1, 1), 9);
        check.due("kind", x.kind(0), 3);
        x.hours(1);
        check.due("IN and PARTS: 7, less 1 to room 1, and 9", x.room(2, 0), 15);
    }

    private static void faulty(String text, int place, int fault) {
        ColdGuest x = new ColdGuest();
        check.due(text, Check.tell(x, text), -1000100 - place);
        check.due(text + ": fault", x.fault(), fault);
        check.due(text + ": no house", x.count(1), 0);
    }

    private static void faultsOfLaw() {
        faulty("", 0, 1);
        faulty("r", 0, 1);
        faulty("1", 0, 1);
        faulty("m1,0,0,0;", 0, 1);
        faulty("N1,0,0,0;", 0, 1);
        faulty(" n1,0,0,0;", 0, 1);
        faulty("n,0,0,0;", 1, 1);
        faulty("n0,0,0,0;", 1, 2);
        faulty("n00,0,0,0;", 1, 2);
        faulty("n7,0,0,0;", 1, 2);
        faulty("n001,0,0,0;", 1, 1);
        faulty("n0010,0,0,0;", 1, 1);
        faulty("n999,0,0,0;", 1, 1);
        faulty("n1;0,0,0;", 2, 1);
        faulty("n1 ,0,0,0;", 2, 1);
        faulty("n1,1,0,0;", 3, 2);
        faulty("n6,6,0,0;", 3, 2);
        faulty("n1,-1,0,0;", 3, 1);
        faulty("n1,0,41,0;", 5, 2);
        faulty("n1,0,40,0,", 9, 1);
        faulty("n1,0,0,100;", 7, 1);
        faulty("n1,0,0,a;", 7, 1);
        // of several the first one in the text
        faulty("n9,9,99,999;", 1, 2);
        faulty("n1,0,0,0;;", 9, 1);
        faulty("n1,0,0,0;n", 9, 1);
        faulty("n1,0,0,0;7", 9, 1);
        faulty("n1,0,0,0; ", 9, 1);
    }

    private static void faultsOfDoors() {
        faulty("n2,0,0,0;d2,1,1;", 10, 2);
        faulty("n2,0,0,0;d0,2,1;", 12, 2);
        faulty("n2,0,0,0;d1,1,1;", 12, 2);
        faulty("n2,0,0,0;d1,01,1;", 12, 2);
        faulty("n2,0,0,0;d1,001,1;", 12, 1);
        faulty("n2,0,0,0;d1,1;", 12, 2);
        faulty("n2,0,0,0;d0,1,2;", 14, 2);
        faulty("n2,0,0,0;d0,1,1,", 15, 1);
        faulty("n2,0,0,0;d0,1;", 13, 1);
        faulty("n2,0,0,0;d,1,1;", 10, 1);
        faulty("n2,0,0,0;dd", 10, 1);
        faulty("n1,0,0,0;d0,0,1;", 12, 2);
        faulty("n2,0,0,0;" + "d0,1,1;".repeat(8) + "d0,1,1;", 65, 3);
        faulty("n2,0,0,0;" + "d0,1,1;".repeat(8) + "d", 65, 3);
        faulty("n2,0,0,0;" + "d0,1,1;".repeat(8) + "x", 65, 1);
        faulty("n2,0,0,0;r0,0;d0,1,1;", 14, 1);
    }

    private static void faultsOfSitters() {
        faulty("n2,0,0,0;r2,0;", 10, 2);
        faulty("n2,0,0,0;r1,21;", 12, 2);
        faulty("n2,0,0,0;r1,020;", 12, 1);
        faulty("n2,0,0,0;r1;", 11, 1);
        faulty("n2,0,0,0;r,", 10, 1);
        faulty("n2,0,0,0;s1,0;", 9, 1);
        faulty("n2,0,0,0;R1,0;", 9, 1);
        faulty("n2,0,0,0;" + "p0,0;".repeat(5) + "t0,0;", 34, 3);
        faulty("n2,0,0,0;" + "p0,0;".repeat(5) + "t", 34, 3);
        faulty("n2,0,0,0;" + "p0,0;".repeat(5) + "d0,1,1;", 34, 1);
        faulty("n2,0,0,0;" + "p0,0;".repeat(5) + "5", 34, 1);
        faulty("n2,0,0,0;" + "d0,1,1;".repeat(8) + "p0,0;".repeat(5) + "d", 90, 1);
    }

    private static void everyByte() {
        for (int b = 0; b <= 255; b++) {
            boolean sitter = "rptfi".indexOf(b) >= 0;
            // a letter that may stand there lacks its number behind it
            faulty("n2,0,0,0;" + (char) b, sitter || b == 'd' ? 10 : 9, 1);
        }
    }

    private static void everyPrefix() {
        String text = "n3,1,20,30;d0,1,1;d2,1,0;r1,3;f2,20;";
        for (int n = 0; n < text.length(); n++) {
            String part = text.substring(0, n);
            if (part.endsWith(";")) {
                sound(part, part.endsWith("r1,3;") ? 1 : 0);
            } else {
                faulty(part, n, 1);
            }
        }
    }

    private static void whatEndsWithTheTape() {
        ColdGuest x = new ColdGuest();
        Check.tell(x, "n111");
        check.due("figures of the tape before are none", Check.tell(x, "n1"), -1000102);
        check.due("the end cannot stand there", x.fault(), 1);
        Check.tell(x, "n1,0,0,0;r0,0;");
        check.due("sitters of the tape before are none", Check.tell(x, "n1,0,0,0;"), 0);
        String full = "n02,00,00,00;" + "d00,01,01;".repeat(7) + "i01,20;".repeat(4) + "d00,01,01";
        check.due("bytes", full.length(), 120);
        faulty(full, 111, 1);
        String figure = "n02,00,00,00;" + "d00,01,01;".repeat(8) + "i01,20;".repeat(2) + "i0,20;" + "i00,020";
        check.due("bytes", figure.length(), 120);
        faulty(figure, 117, 1);
        String cut = "n02,00,00,00;" + "d00,01,01;".repeat(8) + "i01,20;".repeat(3) + "i00,20";
        check.due("bytes", cut.length(), 120);
        faulty(cut, 120, 1);
        String whole = "n02,00,00,00;" + "d00,01,01;".repeat(8) + "i01,20;".repeat(3) + "i0,20;";
        check.due("bytes", whole.length(), 120);
        sound(whole, 4);
    }

    private static void whatAFaultLeaves() {
        ColdGuest x = Check.with("n2,0,10,5;d0,1,1;r0,3;");
        x.hours(2);
        check.due("a fault", Check.tell(x, "n2,0,0,0;d0,1,1;d1,0,2;"), -1000121);
        check.due("its number", x.fault(), 2);
        check.due("the tape is empty", x.count(8), 0);
        check.due("rooms", x.count(1), 2);
        check.due("doors", x.count(2), 1);
        check.due("sitters", x.count(3), 1);
        check.due("hour", x.count(4), 2);
        check.due("cold", x.count(5), 20);
        check.due("acts", x.count(7), 2);
        check.due("another fault", Check.tell(x, "x"), -1000100);
        check.due("the latest one", x.fault(), 1);
        check.due("a sound one", Check.tell(x, "n1,0,0,0;"), 0);
        check.due("the latest one still", x.fault(), 1);
    }

    private static void whatAHouseReplaces() {
        ColdGuest x = Check.with("n3,0,10,5;d0,1,1;d1,2,1;r0,3;i1,3;");
        x.row(4, 0, 4);
        x.ask(0, 1);
        x.hours(5);
        x.door(0, 0);
        x.allAhead(60);
        check.due("another house", Check.tell(x, "n2,1,4,0;d0,1,0;f1,1;"), 1);
        check.due("rows", x.count(0), 1);
        check.due("rooms", x.count(1), 2);
        check.due("doors", x.count(2), 1);
        check.due("sitters", x.count(3), 1);
        check.due("hour", x.count(4), 0);
        check.due("cold", x.count(5), 0);
        check.due("cold of room 0", x.room(0, 0), 0);
        check.due("cold of room 1", x.room(1, 0), 0);
        check.due("open", x.count(6), 0);
        check.due("acts", x.count(7), 0);
        check.due("no act can be undone", x.undo(), STATE);
        check.due("no such room", x.room(2, 0), BAD);
        check.due("no such door", x.doorHas(1, 0), BAD);
        check.due("no such sitter", x.sitter(1, 0), BAD);
        check.due("the trace stays", x.trace(0), 21);
        check.due("an hour of the new one", x.hours(1), 2);
    }
}

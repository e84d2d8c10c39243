/** The sentences of 'Terms' on texts, and of promises 1 and 6 to 8, at their bounds. */
public final class BoundsOfTextTest {
    private static final Sentences say = new Sentences("BoundsOfTextTest");
    private static final Check check = new Check();
    private static final String EIGHT_DOORS = "d0,1,1;".repeat(8);
    private static final String FIVE_SITTERS = "i1,20;".repeat(5);

    public static void main(String[] args) {
        newObject();
        feed();
        tape();
        tokens();
        numbers();
        law();
        doors();
        sitters();
        inPlaceOfTheOneBefore();
        firstToken();
        leastFault();
        theEnd();
        house();
        fault();
        everyByteAtEveryPlace();
        check.end("BoundsOfTextTest, byte by byte");
        say.end();
    }

    private static void newObject() {
        say.hold("1: No HOUSE",
            "count(0)=0 count(1)=0 count(2)=0 count(3)=0 count(4)=0 count(5)=0 count(6)=0 count(7)=0 count(8)=0",
            "fault()=0 status()=0 undo()=STATE hours(1)=STATE door(0,1)=BAD sit(0,0)=BAD room(0,0)=STATE doorHas(0,0)=BAD",
            "sitter(0,0)=BAD ahead(0,0)=STATE allAhead(0)=STATE shivers(0)=STATE moved(0,0,1,1,0)=STATE",
            "sitWhere(0,0,1,0)=BAD led(0,1,0)=STATE came(0,0,1)=STATE who(0,0,0,1)=BAD parted(0,0,0)=STATE",
            "coldest(0,0)=STATE guest(0)=STATE wind(0,0,0)=STATE drawn(0,1,0)=STATE image(0)=STATE restore(0)=STATE",
            "kind(0)=BAD as(0,0)=BAD ask(0,0)=BAD trace(0)=NONE");
    }

    private static void feed() {
        say.hold("feed: a byte (0 to 255)", "feed(MIN)=BAD feed(-1)=BAD feed(0)=1 feed(1)=2 feed(254)=3 feed(255)=4 feed(256)=BAD feed(MAX)=BAD count(8)=4");
        say.hold("feed: how many it has", "feed(110)=1 count(8)=1 feed(110)=2 count(8)=2 house()=F1 feed(110)=1");
    }

    private static void tape() {
        say.hold("1: THE TAPE has at most 120 bytes", "118*feed(110) feed(110)=119 feed(110)=120 feed(110)=FULL count(8)=120 feed(110)=FULL");
        say.hold("feed: BAD ahead of FULL", "120*feed(110) feed(256)=BAD feed(-1)=BAD feed(255)=FULL feed(0)=FULL count(8)=120");
        say.hold("feed: FULL, till it is read", "120*feed(110) feed(110)=FULL house()=F1 feed(110)=1");
        String all = "n02,00,00,00;" + "d00,01,01;".repeat(8) + "i01,20;".repeat(3) + "i0,20;";
        check.due("bytes of a house of 120", all.length(), 120);
        say.hold("1: at most 120 bytes, all of them read", "tape[" + all + "] feed(59)=FULL house()=4 count(2)=8 sitter(3,1)=20");
        say.hold("1: at most 120 bytes, the last one missing", "tape[" + all.substring(0, 119) + "] house()=F119 fault()=1");
        String more = "n02,00,00,00;" + "d00,01,01;".repeat(8) + "i01,20;".repeat(2) + "i1,20;".repeat(2) + ";";
        check.due("bytes of a house and one more", more.length(), 120);
        say.hold("1: at most 120 bytes, the last one too many", "tape[" + more + "] house()=F119 fault()=1");
        String missing = "n02,00,00,00;" + "d00,01,01;".repeat(8) + "i01,20;".repeat(3) + "i01,20";
        check.due("bytes without the last sign", missing.length(), 120);
        say.hold("1: the end: how many bytes there are, 120", "tape[" + missing + "] house()=F120 fault()=1");
    }

    private static void tokens() {
        say.hold("1: letters a to z, figures, SIGNS; nothing else: upper letters", "house[N1,0,0,0;]=F0 fault()=1");
        say.hold("1: nothing else: between a letter and its number", "house[n-1,0,0,0;]=F1 fault()=1 house[n+1,0,0,0;]=F1");
        say.hold("1: nothing else: ahead of a sign", "house[n1.,0,0,0;]=F2 fault()=1 house[n1:0,0,0;]=F2 fault()=1 house[n1/0,0,0;]=F2 fault()=1");
        say.hold("1: nothing else: behind all", "house[n1,0,0,0;.]=F9 fault()=1 house[n1,0,0,0;{]=F9 house[n1,0,0,0;`]=F9");
        say.hold("1: nothing else: byte 0 and byte 255", "tape[n1,0,0,0;] feed(0) house()=F9 fault()=1 tape[n1,0,0,0;] feed(255) house()=F9 fault()=1");
        say.hold("1: letters, each by itself", "house[nn1,0,0,0;]=F1 fault()=1 house[n1,0,0,0;rr0,0;]=F10 fault()=1 house[n2,0,0,0;dd0,1,1;]=F10 fault()=1");
    }

    private static void numbers() {
        say.hold("1: NUMBERS (figures, 2 at most): one, two", "house[n1,0,9,9;]=0 allAhead(1)=9 house[n01,00,09,09;]=0 allAhead(1)=9");
        say.hold("1: a run of three figures, at its first: ROOMS", "house[n001,0,0,0;]=F1 fault()=1");
        say.hold("1: a run of three figures, at its first: IN", "house[n1,000,0,0;]=F3 fault()=1");
        say.hold("1: a run of three figures, at its first: PARTS", "house[n1,0,010,0;]=F5 fault()=1");
        say.hold("1: a run of three figures, at its first: LIMIT", "house[n1,0,0,099;]=F7 fault()=1");
        say.hold("1: a run of three figures, at its first: A", "house[n2,0,0,0;d000,1,1;]=F10 fault()=1");
        say.hold("1: a run of three figures, at its first: B", "house[n2,0,0,0;d0,001,1;]=F12 fault()=1");
        say.hold("1: a run of three figures, at its first: OPEN", "house[n2,0,0,0;d0,1,001;]=F14 fault()=1");
        say.hold("1: a run of three figures, at its first: ROOM", "house[n2,0,0,0;r001,1;]=F10 fault()=1");
        say.hold("1: a run of three figures, at its first: FORCE", "house[n2,0,0,0;r1,001;]=F12 fault()=1");
        say.hold("1: a run of four figures, and of many", "house[n0001,0,0,0;]=F1 fault()=1 house[n1,0,0,00000000000000000009;]=F7 fault()=1");
        say.hold("1: a run of three figures where none can stand", "house[123]=F0 fault()=1 house[n1,0,0,0;123]=F9 fault()=1");
    }

    private static void law() {
        say.hold("1: n ROOMS, 1 to 6",
            "house[n0,0,0,0;]=F1 fault()=2 count(1)=0 house[n1,0,0,0;]=0 count(1)=1 house[n6,0,0,0;]=0 count(1)=6",
            "house[n7,0,0,0;]=F1 fault()=2 count(1)=6 house[n99,0,0,0;]=F1 fault()=2 house[n00,0,0,0;]=F1 fault()=2");
        say.hold("1: IN, a ROOM: of one", "house[n1,0,1,0;]=0 house[n1,1,1,0;]=F3 fault()=2");
        say.hold("1: IN, a ROOM: of six",
            "house[n6,0,1,0;]=0 ahead(1,0)=1 house[n6,5,1,0;]=0 ahead(1,5)=1 house[n6,6,1,0;]=F3 fault()=2 house[n6,99,1,0;]=F3 fault()=2");
        say.hold("1: PARTS, 0 to 40",
            "house[n1,0,0,0;]=0 allAhead(1)=0 house[n1,0,1,0;]=0 allAhead(1)=1 house[n1,0,39,0;]=0 allAhead(1)=39",
            "house[n1,0,40,0;]=0 allAhead(1)=40 house[n1,0,41,0;]=F5 fault()=2 house[n1,0,99,0;]=F5 fault()=2 allAhead(1)=40");
        say.hold("1: LIMIT, 0 to 99: 0", "house[n1,0,1,0;r0,0;]=1 sitter(0,2)=0 hours(1)=1 sitter(0,2)=1");
        say.hold("1: LIMIT, 0 to 99: 99",
            "house[n1,0,33,99;r0,0;]=1 hours(3)=99 sitter(0,2)=0 house[n1,0,25,99;r0,0;]=1 hours(4)=100 sitter(0,2)=1",
            "house[n1,0,0,100;r0,0;]=F7 fault()=1");
        say.hold("1: the law: all of it", "house[n;]=F1 fault()=1 house[n1;]=F2 house[n1,0;]=F4 house[n1,0,0;]=F6 house[n1,0,0,0,]=F8 house[n1,0,0,0,0;]=F8 fault()=1");
        say.hold("1: the law: one", "house[n1,0,0,0;n1,0,0,0;]=F9 fault()=1 house[d0,1,1;]=F0 fault()=1 house[r0,0;]=F0 fault()=1");
    }

    private static void doors() {
        say.hold("1: door: A, a ROOM", "house[n3,0,0,0;d0,1,1;]=0 house[n3,0,0,0;d2,1,1;]=0 doorHas(0,0)=2 house[n3,0,0,0;d3,1,1;]=F10 fault()=2");
        say.hold("1: door: B, a ROOM", "house[n3,0,0,0;d1,0,1;]=0 house[n3,0,0,0;d1,2,1;]=0 doorHas(0,1)=2 house[n3,0,0,0;d1,3,1;]=F12 fault()=2");
        say.hold("1: door: ROOMS, unlike",
            "house[n3,0,0,0;d0,0,1;]=F12 fault()=2 house[n3,0,0,0;d2,2,1;]=F12 fault()=2 house[n3,0,0,0;d2,02,1;]=F12 fault()=2",
            "house[n1,0,0,0;d0,0,0;]=F12 fault()=2 house[n3,0,0,0;d2,1,1;]=0");
        say.hold("1: door: OPEN, 0, 1", "house[n2,0,0,0;d0,1,0;]=0 count(6)=0 house[n2,0,0,0;d0,1,1;]=0 count(6)=1 house[n2,0,0,0;d0,1,2;]=F14 fault()=2 house[n2,0,0,0;d0,1,99;]=F14 fault()=2");
        say.hold("1: DOORS 0 .. 7", "house[n2,0,0,0;" + EIGHT_DOORS + "]=0 count(2)=8 doorHas(0,2)=1 doorHas(7,2)=1 doorHas(8,2)=BAD doorHas(-1,2)=BAD");
        say.hold("1: DOORS, 8 at most: 7", "house[n2,0,0,0;" + "d0,1,1;".repeat(7) + "]=0 count(2)=7 count(6)=127");
        say.hold("1: DOORS, 8 at most: 8", "house[n2,0,0,0;" + EIGHT_DOORS + "]=0 count(2)=8 count(6)=255");
        say.hold("1: DOORS, 8 at most: 9 (its letter)", "house[n2,0,0,0;" + EIGHT_DOORS + "d0,1,1;]=F65 fault()=3 count(2)=0");
        say.hold("1: DOORS, 8 at most: the letter alone", "house[n2,0,0,0;" + EIGHT_DOORS + "d]=F65 fault()=3");
        say.hold("1: no door", "house[n2,0,0,0;]=0 count(2)=0 doorHas(0,0)=BAD house[n2,0,0,0;r0,0;]=1 count(2)=0");
        say.hold("1: two may be between the same", "house[n2,0,0,0;d0,1,1;d0,1,0;d1,0,1;]=0 count(2)=3 room(0,4)=7 room(1,4)=7");
    }

    private static void sitters() {
        say.hold("1: SORT: r, p, t, f, i", "house[n1,0,0,0;r0,0;p0,0;t0,0;f0,0;i0,0;]=5 kind(0)=1 kind(1)=2 kind(2)=3 kind(3)=4 kind(4)=5");
        say.hold("1: SORT: no other letter",
            "house[n1,0,0,0;q0,0;]=F9 fault()=1 house[n1,0,0,0;s0,0;]=F9 house[n1,0,0,0;o0,0;]=F9 house[n1,0,0,0;u0,0;]=F9",
            "house[n1,0,0,0;e0,0;]=F9 house[n1,0,0,0;g0,0;]=F9 house[n1,0,0,0;h0,0;]=F9 house[n1,0,0,0;j0,0;]=F9 house[n1,0,0,0;a0,0;]=F9 house[n1,0,0,0;z0,0;]=F9");
        say.hold("1: sitter: ROOM", "house[n3,0,0,0;r0,0;]=1 house[n3,0,0,0;r2,0;]=1 sitter(0,0)=2 house[n3,0,0,0;r3,0;]=F10 fault()=2");
        say.hold("1: FORCE, 0 to 20",
            "house[n1,0,0,0;i0,0;]=1 sitter(0,1)=0 house[n1,0,0,0;i0,19;]=1 sitter(0,1)=19 house[n1,0,0,0;i0,20;]=1 sitter(0,1)=20",
            "house[n1,0,0,0;i0,21;]=F12 fault()=2 house[n1,0,0,0;i0,99;]=F12 fault()=2 sitter(0,1)=20");
        say.hold("1: SITTERS 0 .. 4", "house[n2,0,0,0;" + FIVE_SITTERS + "]=5 sitter(-1,0)=BAD sitter(0,0)=1 sitter(4,0)=1 sitter(5,0)=BAD");
        say.hold("1: SITTERS, 5 at most: 4", "house[n2,0,0,0;" + "i1,20;".repeat(4) + "]=4 count(3)=4");
        say.hold("1: SITTERS, 5 at most: 5", "house[n2,0,0,0;" + FIVE_SITTERS + "]=5 count(3)=5");
        say.hold("1: SITTERS, 5 at most: 6 (its letter)", "house[n2,0,0,0;" + FIVE_SITTERS + "r0,0;]=F39 fault()=3 count(3)=0");
        say.hold("1: SITTERS, 5 at most: the letter alone, of each SORT",
            "house[n2,0,0,0;" + FIVE_SITTERS + "i]=F39 fault()=3 house[n2,0,0,0;" + FIVE_SITTERS + "p]=F39 fault()=3");
        say.hold("1: no sitter", "house[n1,0,0,0;]=0 count(3)=0 kind(0)=BAD");
        say.hold("1: doors ahead of sitters", "house[n2,0,0,0;r0,0;d0,1,1;]=F14 fault()=1");
    }

    private static void inPlaceOfTheOneBefore() {
        say.hold("1: stands in place of the one before: HOUR 0, no COLD anywhere; no ACT can be undone",
            "house[n3,0,40,9;d0,1,1;d1,2,1;r0,3;p2,1;]=2 hours(9)=360 door(0,0)=2 sit(0,1)=0 count(7)=11",
            "house[n2,1,8,5;d0,1,0;t1,4;]=1 count(1)=2 count(2)=1 count(3)=1 count(4)=0 count(5)=0 count(6)=0 count(7)=0 undo()=STATE",
            "room(0,0)=0 room(1,0)=0 room(2,0)=BAD sitter(0,0)=1 sitter(1,0)=BAD doorHas(1,0)=BAD hours(1)=4 room(1,0)=4");
        say.hold("1: the same one read again", "house[n1,0,7,3;r0,0;]=1 hours(3)=21 house[n1,0,7,3;r0,0;]=1 count(4)=0 count(5)=0 count(7)=0 sitter(0,2)=0");
        say.hold("1: HOUR 0, no COLD anywhere, whatever was foretold of the one before",
            "house[n2,0,40,9;d0,1,1;r0,3;]=1 hours(9)=360 ahead(60,0) drawn(60,9,0) house[n2,1,8,9;d1,0,0;]=0 count(4)=0 count(5)=0",
            "count(6)=0 count(7)=0 hours(1)=8 count(4)=1 room(1,0)=8 allAhead(60) house[n2,1,8,9;d1,0,0;]=0 count(4)=0 count(5)=0");
        say.hold("1: (none at first)", "count(1)=0 hours(1)=STATE house[n1,0,7,3;]=0 hours(1)=7");
    }

    private static void firstToken() {
        say.hold("1: the first TOKEN that has one: a NUMBER ahead of a SIGN", "house[n9;]=F1 fault()=2");
        say.hold("1: the first TOKEN that has one: a SIGN ahead of a NUMBER", "house[n1;99,99,999;]=F2 fault()=1");
        say.hold("1: the first TOKEN that has one: a byte that is none, behind", "house[n7,0,0,0?]=F1 fault()=2");
        say.hold("1: the first TOKEN that has one: three figures, behind", "house[n1,1,0,000;]=F3 fault()=2");
        say.hold("1: the first TOKEN that has one: one door more, behind", "house[n2,0,0,0;d0,1,2;" + EIGHT_DOORS + "d]=F14 fault()=2");
        say.hold("1: its first byte, of two figures", "house[n2,0,0,0;d0,10,1;]=F12 fault()=2 house[n2,0,0,0;r0,21;]=F12 fault()=2");
    }

    private static void leastFault() {
        say.hold("1: of one TOKEN the least: a NUMBER not as told that cannot stand there", "house[n1,0,0,0;99]=F9 fault()=1 house[99]=F0 fault()=1");
        say.hold("1: of one TOKEN the least: a door more than there is room for, behind a sitter",
            "house[n2,0,0,0;" + EIGHT_DOORS + "r0,0;d0,1,1;]=F70 fault()=1");
        say.hold("1: of one TOKEN the least: a letter that cannot stand there, behind 5 sitters",
            "house[n2,0,0,0;" + FIVE_SITTERS + "d0,1,1;]=F39 fault()=1");
        say.hold("1: of one TOKEN the least: no SORT, behind 5 sitters", "house[n2,0,0,0;" + FIVE_SITTERS + "s0,0;]=F39 fault()=1");
        say.hold("1: of one TOKEN the least: a NUMBER of three figures beyond its bound", "house[n1,0,0,0;r0,021;]=F12 fault()=1");
    }

    private static void theEnd() {
        say.hold("1: the end: how many bytes there are: none", "house()=F0 fault()=1");
        String text = "n3,1,20,30;d0,1,1;r1,03;";
        for (int n = 1; n <= text.length(); n++) {
            String part = text.substring(0, n);
            String due = !part.endsWith(";") ? "F" + n : part.length() == text.length() ? "1" : "0";
            say.hold("1: the end: how many bytes there are: " + n, "house[" + part + "]=" + due + " fault()=" + (due.startsWith("F") ? 1 : 0));
        }
    }

    private static void house() {
        say.hold("house: the tape, empty then", "house[n1,0,1,1;]=0 count(8)=0 feed(110)=1 house()=F1 count(8)=0 feed(110)=1");
        say.hold("house: how many SITTERS there are", "house[n1,0,1,1;]=0 house[n1,0,1,1;r0,0;]=1 house[n1,0,1,1;r0,0;r0,0;]=2");
        say.hold("house: a FAULT: all stays",
            "house[n2,0,10,5;d0,1,1;r0,3;]=1 row(0,2,2)=2 set(0,0,10)=10 ask(0,0)=3 hours(3)=30 image(1)=1 door(0,0)=0 sit(0,1)=0",
            "house[n1,0,0,1]=F8 house[n2,0,1,1;d0,1,1;i1,20;x]=F22 house[n2,0,1,1;d1,1,1;]=F12",
            "house[n6,5,1,1;d0,5,1;d4,5,1;i5,20;r6,0;]=F30 count(1)=2 count(4)=3 count(7)=5 undo()=4");
        say.hold("house: a FAULT without a HOUSE: all stays", "house[n1,0,0,1]=F8 count(1)=0 hours(1)=STATE");
        say.hold("house: a place by its byte: the first and the last of the tape",
            "120*feed(59) house()=F0 tape[n1,0,0,0;" + "r00,00;".repeat(4) + "r0,00;] house()=5");
    }

    private static void fault() {
        say.hold("fault: 0 before one", "fault()=0 house[n1,0,0,0;]=0 fault()=0");
        say.hold("fault: the number of the latest FAULT",
            "house[n7]=F1 fault()=2 house[m]=F0 fault()=1 house[n1,0,0,0;" + "r0,0;".repeat(6) + "]=F34 fault()=3",
            "house[n1,0,0,0;]=0 fault()=3 hours(1)=0 undo()=0 fault()=3 house()=F0 fault()=1");
    }

    /** Each byte put in place of each of a text, ahead of it, and behind all, as the model reads it. */
    private static void everyByteAtEveryPlace() {
        String text = "n2,1,20,9;d0,1,1;d1,0,0;t1,20;i0,7;";
        for (int at = 0; at <= text.length(); at++) {
            ColdGuest guest = new ColdGuest();
            for (int b = 0; b <= 255; b++) {
                if (b % 6 == 0) {
                    // an object is good for 512 calls
                    guest = new ColdGuest();
                }
                asTheModelReads(guest, text.substring(0, at) + (char) b + text.substring(at));
                if (at < text.length()) {
                    asTheModelReads(guest, text.substring(0, at) + (char) b + text.substring(at + 1));
                }
            }
        }
    }

    private static void asTheModelReads(ColdGuest guest, String text) {
        Model model = new Model();
        for (char letter : text.toCharArray()) {
            model.call("feed", letter);
        }
        long due = model.call("house");
        check.due(text, Check.tell(guest, text), due);
        if (due < 0) {
            check.due(text + ": its number", guest.fault(), model.call("fault"));
        } else {
            check.due(text + ": its cold", guest.allAhead(9), model.call("allAhead", 9));
        }
    }
}

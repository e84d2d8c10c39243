/** The sentences of 'Terms' on kinds, asks and images, and of promises 29 to 35, at their bounds. */
public final class BoundsOfAsksTest {
    private static final Sentences say = new Sentences("BoundsOfAsksTest");
    private static final String FIVE = " house[n6,5,8,3;d0,5,1;r5,1;p4,2;t3,3;f2,4;i0,5;]=5 ";

    public static void main(String[] args) {
        image();
        restore();
        imagesKeepAll();
        kind();
        kindsOf();
        as();
        sizes();
        marks();
        ask();
        trace();
        count();
        say.end();
    }

    private static void image() {
        say.hold("image: an IMAGE (0, 1)", FIVE + "image(MIN)=BAD image(-1)=BAD image(0)=1 image(1)=1 image(2)=BAD image(MAX)=BAD restore(0)=1 restore(1)=1");
        say.hold("image: STATE: no HOUSE", "image(0)=STATE image(1)=STATE restore(0)=STATE house[n1]=F2 image(0)=STATE");
        say.hold("image: BAD ahead of STATE", "image(2)=BAD image(-1)=BAD image(MAX)=BAD");
        say.hold("image: no ACT, none forgotten", FIVE + "hours(3) image(0)=1 count(7)=3 undo()=2");
        say.hold("image: refused, and the one kept stays", FIVE + "hours(2) image(1)=1 hours(1) image(2)=BAD restore(1)=1 count(4)=2");
        say.hold("image: in place of the one before", FIVE + "hours(2) image(1)=1 hours(3) image(1)=1 hours(1) restore(1)=1 count(4)=5");
    }

    private static void restore() {
        say.hold("restore: an IMAGE (0, 1)", FIVE + "image(0)=1 image(1)=1 restore(MIN)=BAD restore(-1)=BAD restore(0)=1 restore(1)=1 restore(2)=BAD restore(MAX)=BAD");
        say.hold("restore: STATE: none was kept", "restore(0)=STATE restore(1)=STATE" + FIVE + "restore(0)=STATE restore(1)=STATE image(1)=1 restore(0)=STATE restore(1)=1");
        say.hold("restore: BAD ahead of STATE", "restore(2)=BAD restore(-1)=BAD");
        say.hold("restore: no ACT can be undone then", FIVE + "image(0)=1 hours(3) count(7)=3 restore(0)=1 count(7)=0 undo()=STATE hours(1) count(7)=1 undo()=0 undo()=STATE");
        say.hold("restore: once more", FIVE + "hours(1) image(0)=1 hours(3) restore(0)=1 count(4)=1 hours(2) door(0,0)=0 restore(0)=1 count(4)=1 count(6)=1");
        say.hold("restore: HOUR of the IMAGE, at 999", "house[n1,0,0,0;]=0 hours(1)=0 image(0)=1 41*hours(24) hours(14)=0 hours(1)=FULL image(1)=1 restore(0)=1 count(4)=1 hours(1)=0 restore(1)=1 hours(1)=FULL");
    }

    private static void imagesKeepAll() {
        say.hold("restore: the HOUSE is as an IMAGE kept it: all of it",
            FIVE + "hours(2) sit(0,1)=5 door(0,0)=0 image(0)=1 hours(5) sit(0,5)=1 sit(4,4)=0 door(0,1)=1 restore(0)=1",
            "count(1)=6 count(2)=1 count(3)=5 count(4)=2 count(6)=0 sitter(0,0)=1 sitter(4,0)=0 kind(2)=3 sitter(2,1)=3");
        say.hold("restore: another HOUSE between", FIVE + "hours(1) image(0)=1 house[n1,0,40,99;]=0 hours(2)=80 image(1)=1 restore(0)=1 count(1)=6 ahead(0,5)=7 restore(1)=1 count(1)=1 count(5)=80 hours(1)=120");
        say.hold("restore: rows, the tape, the trace and faults are none of the HOUSE",
            "house[x]=F0" + FIVE + "image(0)=1 row(0,0,4)=4 ask(3,0)=-96 tape[n1] restore(0)=1 count(0)=1 count(8)=2 trace(0)=13 fault()=1 status()=0");
    }

    private static void kind() {
        say.hold("kind: as told (1 to 5)", FIVE + "kind(0)=1 kind(1)=2 kind(2)=3 kind(3)=4 kind(4)=5");
        say.hold("kind: BAD", "kind(0)=BAD" + FIVE + "kind(MIN)=BAD kind(-1)=BAD kind(0)=1 kind(4)=5 kind(5)=BAD kind(MAX)=BAD");
        say.hold("kind: BAD: no sitters", "house[n1,0,0,0;]=0 kind(0)=BAD");
    }

    private static void kindsOf() {
        say.hold("3: 1 READER, a SITTER", FIVE + "as(0,0)=0 as(0,1)=0 as(0,2)=KIND as(0,3)=KIND as(0,4)=KIND as(0,5)=KIND");
        say.hold("3: 2 PIANIST, a READER", FIVE + "as(1,0)=1 as(1,1)=1 as(1,2)=1 as(1,3)=KIND as(1,4)=KIND as(1,5)=KIND");
        say.hold("3: 3 TALKER, a READER", FIVE + "as(2,0)=2 as(2,1)=2 as(2,2)=KIND as(2,3)=2 as(2,4)=KIND as(2,5)=KIND");
        say.hold("3: 4 FIRE, a SITTER", FIVE + "as(3,0)=3 as(3,1)=KIND as(3,2)=KIND as(3,3)=KIND as(3,4)=3 as(3,5)=KIND");
        say.hold("3: 5 ICE, a FIRE", FIVE + "as(4,0)=4 as(4,1)=KIND as(4,2)=KIND as(4,3)=KIND as(4,4)=4 as(4,5)=4");
    }

    private static void as() {
        say.hold("as: a KIND (0 .. 5)", FIVE + "as(4,MIN)=BAD as(4,-1)=BAD as(4,0)=4 as(4,5)=4 as(4,6)=BAD as(4,MAX)=BAD");
        say.hold("as: BAD: a SITTER", "as(0,0)=BAD" + FIVE + "as(MIN,0)=BAD as(-1,0)=BAD as(0,0)=0 as(4,0)=4 as(5,0)=BAD as(MAX,0)=BAD");
        say.hold("as: BAD ahead of KIND", FIVE + "as(5,5)=BAD as(0,6)=BAD as(0,5)=KIND");
        say.hold("as: KIND, and its KIND stays", FIVE + "as(0,5)=KIND kind(0)=1 status()=3 as(4,4)=4 kind(4)=5 status()=0");
    }

    private static void sizes() {
        say.hold("4: SIZE of a reader: 11, 10, then MARK anew", FIVE + "ask(0,0)=6 trace(0)=11 trace(1)=10 trace(2)=21 trace(3)=20 trace(4)=NONE");
        say.hold("4: SIZE of a pianist: 12", FIVE + "ask(1,0)=-12 trace(0)=12 trace(1)=11 trace(2)=10 trace(3)=24 trace(4)=21 trace(5)=20 trace(6)=NONE");
        say.hold("4: SIZE of a talker: that of the nearest KIND", FIVE + "ask(2,0)=-992 trace(0)=11 trace(1)=10 trace(2)=22 trace(3)=21 trace(4)=20 trace(5)=NONE");
        say.hold("4: SIZE of a fire: 13", FIVE + "ask(3,0)=-96 trace(0)=13 trace(1)=10 trace(2)=NONE");
        say.hold("4: SIZE of ice: 14", FIVE + "ask(4,0)=-190 trace(0)=14 trace(1)=13 trace(2)=10 trace(3)=NONE");
        say.hold("4: SIZE of the least FORCE, ROOM and number", "house[n1,0,0,0;p0,0;]=1 ask(0,0)=0 house[n1,0,0,0;f0,0;]=1 ask(0,0)=-100 house[n1,0,0,0;i0,0;]=1 ask(0,0)=-200");
        say.hold("4: SIZE of the most FORCE, ROOM and number", "house[n6,0,0,0;r5,20;p5,20;t5,20;f5,20;p5,20;]=5 ask(4,0)=-38 ask(0,0)=25 ask(2,0)=-973 ask(3,0)=-80");
    }

    private static void marks() {
        say.hold("4: MARK of a reader: 21", FIVE + "ask(0,1)=5 trace(0)=21 trace(1)=20 trace(2)=NONE");
        say.hold("4: MARK of a pianist: 24", FIVE + "ask(1,1)=10 trace(0)=24 trace(1)=21 trace(2)=20 trace(3)=NONE");
        say.hold("4: MARK of a talker: 22", FIVE + "ask(2,1)=-995 trace(0)=22 trace(1)=21 trace(2)=20 trace(3)=NONE");
        say.hold("4: MARK of a fire: 23, then SIZE anew", FIVE + "ask(3,1)=99 trace(0)=23 trace(1)=20 trace(2)=13 trace(3)=10 trace(4)=NONE");
        say.hold("4: MARK of ice: that of the nearest KIND", FIVE + "ask(4,1)=194 trace(0)=23 trace(1)=20 trace(2)=14 trace(3)=13 trace(4)=10 trace(5)=NONE");
        say.hold("4: MARK: ROOM as it is now", FIVE + "sit(0,0)=5 ask(0,1)=0 sit(0,4)=0 ask(0,1)=4 undo()=1 ask(0,1)=0");
    }

    private static void ask() {
        say.hold("ask: an ASK (0, 1)", FIVE + "ask(0,MIN)=BAD ask(0,-1)=BAD ask(0,0)=6 ask(0,1)=5 ask(0,2)=BAD ask(0,MAX)=BAD");
        say.hold("ask: BAD: a SITTER", "ask(0,0)=BAD" + FIVE + "ask(MIN,0)=BAD ask(-1,0)=BAD ask(0,0)=6 ask(4,0)=-190 ask(5,0)=BAD ask(MAX,0)=BAD");
        say.hold("ask: THE TRACE is empty ahead of it", FIVE + "ask(1,0)=-12 trace(5)=20 ask(3,0)=-96 trace(1)=10 trace(2)=NONE trace(5)=NONE ask(3,0)=-96 trace(0)=13 trace(2)=NONE");
        say.hold("ask: refused, and THE TRACE stays", FIVE + "ask(1,0)=-12 ask(5,0)=BAD ask(0,2)=BAD trace(0)=12 trace(5)=20 trace(6)=NONE");
        say.hold("ask: BAD: no sitters", "house[n1,0,0,0;]=0 ask(0,0)=BAD ask(0,1)=BAD trace(0)=NONE");
    }

    private static void trace() {
        say.hold("trace: NONE, at first", "trace(0)=NONE trace(-1)=NONE trace(16)=NONE");
        say.hold("trace: number i; NONE", FIVE + "trace(0)=NONE ask(1,0)=-12 trace(MIN)=NONE trace(-1)=NONE trace(0)=12 trace(5)=20 trace(6)=NONE trace(15)=NONE trace(16)=NONE trace(MAX)=NONE");
        say.hold("trace: it stays behind another HOUSE", FIVE + "ask(3,0)=-96 house[n1,0,0,0;]=0 trace(0)=13 trace(1)=10 trace(2)=NONE");
    }

    private static void count() {
        say.hold("count: 0 to 8", FIVE + "count(MIN)=BAD count(-1)=BAD count(0)=0 count(8)=0 count(9)=BAD count(MAX)=BAD");
        say.hold("count: 0 ROWS", "count(0)=0 row(0,0,0)=0 count(0)=1 row(0,1,9)=9 count(0)=1 row(7,0,1)=1 count(0)=2 drop(0)=9 count(0)=1 drop(0)=NULL count(0)=1");
        say.hold("count: 1 ROOMS, 2 DOORS, 3 SITTERS: the most", "house[n6,0,0,0;" + "d0,5,1;".repeat(8) + "r0,0;".repeat(5) + "]=5 count(1)=6 count(2)=8 count(3)=5 count(6)=255");
        say.hold("count: 1 ROOMS, 2 DOORS, 3 SITTERS: the least", "house[n1,0,0,0;]=0 count(1)=1 count(2)=0 count(3)=0 count(6)=0");
        say.hold("count: 4 HOUR, 5 all COLD, 7 ACTS", FIVE + "door(0,0)=0 hours(2) count(4)=2 count(5)=26 count(7)=3 undo()=2 count(4)=1 count(5)=13 count(7)=2");
        say.hold("count: 8 bytes on the tape: none, 120", "count(8)=0 feed(0)=1 count(8)=1 119*feed(1) count(8)=120 feed(1)=FULL count(8)=120 house()=F0 count(8)=0");
        say.hold("count: BAD without a HOUSE", "count(-1)=BAD count(9)=BAD count(6)=0");
    }
}

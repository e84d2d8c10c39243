/** The sentences of 'Terms' on what is foretold, and of promises 16 to 28, at their bounds. */
public final class BoundsOfForetoldTest {
    private static final Sentences say = new Sentences("BoundsOfForetoldTest");
    /** One part an hour into the one room: as cold as it is late. */
    private static final String CLOCK = " house[n1,0,1,0;]=0 ";
    private static final String SIX = " house[n6,5,16,3;d0,5,1;d5,1,0;d1,2,0;d2,3,0;d3,4,0;d0,1,0;d0,2,0;d0,3,1;r0,1;p1,2;t2,3;f3,4;i5,5;]=5 ";
    private static final String EIGHT_OPEN = "d0,1,1;".repeat(8);

    public static void main(String[] args) {
        ahead();
        allAhead();
        shivers();
        movedAnswers();
        movedNumbers();
        sitWhere();
        ledAnswers();
        ledNumbers();
        came();
        cameRefused();
        who();
        whoRefused();
        parted();
        partedRefused();
        coldest();
        guest();
        windAnswers();
        windRefused();
        drawnAnswers();
        drawnRefused();
        say.end();
    }

    private static void ahead() {
        say.hold("3: AHEAD by n HOURS (0 to 60): COLD of a ROOM",
            CLOCK + "ahead(MIN,0)=BAD ahead(-1,0)=BAD ahead(0,0)=0 ahead(1,0)=1 ahead(59,0)=59 ahead(60,0)=60 ahead(61,0)=BAD ahead(MAX,0)=BAD");
        say.hold("ahead: BAD: a ROOM", SIX + "ahead(1,MIN)=BAD ahead(1,-1)=BAD ahead(1,0)=4 ahead(1,5)=17 ahead(1,6)=BAD ahead(1,MAX)=BAD");
        say.hold("ahead: STATE: no HOUSE (ahead of BAD)", "ahead(0,0)=STATE ahead(-1,0)=STATE ahead(61,0)=STATE ahead(0,-1)=STATE ahead(0,6)=STATE");
        say.hold("3: AHEAD: from now on", CLOCK + "hours(24)=24 ahead(0,0)=24 ahead(60,0)=84");
    }

    private static void allAhead() {
        say.hold("3: AHEAD by n HOURS (0 to 60): all COLD",
            CLOCK + "allAhead(MIN)=BAD allAhead(-1)=BAD allAhead(0)=0 allAhead(1)=1 allAhead(59)=59 allAhead(60)=60 allAhead(61)=BAD allAhead(MAX)=BAD");
        say.hold("3: AHEAD: all COLD of six ROOMS at the most",
            "house[n6,0,0,0;i0,20;i1,20;i2,20;i3,20;i4,20;]=5 allAhead(49)=4900 allAhead(50)=4995 allAhead(60)=4995 hours(24)=2400 allAhead(60)=4995");
        say.hold("allAhead: STATE: no HOUSE (ahead of BAD)", "allAhead(0)=STATE allAhead(-1)=STATE allAhead(61)=STATE");
    }

    private static void shivers() {
        say.hold("3: SHIVERS: 0: now", "house[n1,0,9,8;r0,0;]=1 shivers(0)=1 shivers(1)=0 hours(1)=9 shivers(0)=0 shivers(1)=0");
        say.hold("3: SHIVERS: 59 HOURS", "house[n1,0,1,58;r0,0;]=1 shivers(0)=59 shivers(1)=0");
        say.hold("3: SHIVERS: 60 at most", "house[n1,0,1,59;r0,0;]=1 shivers(0)=60 shivers(1)=0");
        say.hold("3: SHIVERS: behind 61: NONE", "house[n1,0,1,60;r0,0;]=1 shivers(0)=NONE shivers(1)=NONE hours(1)=1 shivers(0)=60");
        say.hold("3: SHIVERS: nobody: NONE", "house[n1,0,40,0;]=0 shivers(0)=NONE shivers(1)=NONE hours(1)=40 shivers(0)=NONE");
        say.hold("3: SHIVERS: who then, the first",
            "house[n3,1,9,8;f0,0;i2,0;t1,0;r1,0;]=4 shivers(0)=1 shivers(1)=2 sit(2,0)=1 shivers(1)=3 sit(0,1)=0 shivers(1)=0");
        say.hold("3: SHIVERS: who first, not who is first", "house[n2,0,9,8;d0,1,1;r1,0;r0,0;]=2 shivers(0)=2 shivers(1)=1 hours(24) shivers(1)=0");
        say.hold("shivers: BAD", "house[n1,0,9,8;r0,0;]=1 shivers(MIN)=BAD shivers(-1)=BAD shivers(0)=1 shivers(1)=0 shivers(2)=BAD shivers(MAX)=BAD");
        say.hold("shivers: STATE: no HOUSE (ahead of BAD)", "shivers(0)=STATE shivers(-1)=STATE shivers(2)=STATE");
    }

    private static void movedAnswers() {
        say.hold("3: MOVED: COLD of t or more", "house[n2,0,40,0;d0,1,0;]=0 moved(1,0,39,1,0)=0 moved(1,0,40,1,0)=0 moved(1,0,41,1,0)=NONE moved(1,0,41,1,1)=NONE");
        say.hold("3: MOVED: WARM (below t)", "house[n2,0,40,0;d0,1,0;]=0 moved(0,1,41,1,0)=0 moved(0,1,40,1,0)=1 moved(0,1,40,1,1)=1 moved(0,1,31,1,0)=1 moved(0,1,30,1,0)=NONE");
        say.hold("3: MOVED: COLD by a DOOR opened", "house[n2,0,40,0;d0,1,0;]=0 moved(2,0,10,1,0)=1 moved(2,0,10,1,1)=1 moved(2,0,11,1,0)=NONE");
        say.hold("3: MOVED: WARM by a DOOR shut", "house[n2,0,40,0;d0,1,1;]=0 moved(0,2,10,1,0)=1 moved(0,2,10,1,1)=1 moved(0,2,11,1,0)=0 moved(0,2,11,1,1)=0");
        say.hold("3: MOVED: no ROOM told", "house[n2,0,40,0;d0,1,0;]=0 moved(0,0,1,1,0)=0 moved(0,0,1,1,1)=0 moved(0,0,999,24,0)=0");
        say.hold("3: MOVED: which, of several the least", "house[n2,0,40,0;d0,1,0;d1,0,0;d0,1,0;]=0 moved(2,0,10,1,0)=1 moved(2,0,10,1,1)=1 moved(2,0,15,1,0)=2 moved(2,0,15,1,1)=3");
        say.hold("3: MOVED: the fewest ahead of the least", "house[n3,0,40,0;d0,1,0;d1,2,0;d0,2,0;]=0 moved(4,0,2,1,0)=1 moved(4,0,2,1,1)=4 door(0,1)=1 moved(4,0,2,1,1)=2");
        say.hold("3: MOVED: all of eight DOORS",
            "house[n2,0,40,0;" + EIGHT_OPEN + "]=0 moved(0,2,1,1,0)=8 moved(0,2,1,1,1)=255 moved(0,2,1,24,1)=255 moved(1,0,40,1,1)=255");
        say.hold("3: MOVED: without DOORS", "house[n2,0,40,0;]=0 moved(1,2,40,1,0)=0 moved(1,2,40,1,1)=0 moved(2,0,1,24,0)=NONE moved(2,0,1,24,1)=NONE");
    }

    private static void movedNumbers() {
        say.hold("3: MOVED: n HOURS (1 to 24)", CLOCK + "moved(1,0,1,0,0)=BAD moved(1,0,1,1,0)=0 moved(1,0,2,1,0)=NONE moved(1,0,24,24,0)=0 moved(1,0,25,24,0)=NONE moved(1,0,1,25,0)=BAD moved(1,0,1,-1,0)=BAD moved(1,0,1,MAX,0)=BAD");
        say.hold("moved: t 1 to 999", CLOCK + "moved(0,1,0,1,0)=BAD moved(0,1,1,1,0)=NONE moved(0,1,2,1,0)=0 moved(0,1,999,1,0)=0 moved(0,1,1000,1,0)=BAD moved(0,1,-1,1,0)=BAD moved(0,1,MIN,1,0)=BAD");
        say.hold("moved: t of the most", "house[n1,0,39,0;]=0 hours(24)=936 moved(1,0,999,1,0)=NONE moved(1,0,975,1,0)=0 moved(1,0,999,2,0)=0 moved(0,1,999,2,0)=NONE");
        say.hold("moved: ROOMS (bits) that are: one", CLOCK + "moved(-1,0,1,1,0)=BAD moved(0,0,1,1,0)=0 moved(1,0,1,1,0)=0 moved(2,0,1,1,0)=BAD moved(0,-1,1,1,0)=BAD moved(0,2,1,1,0)=BAD");
        say.hold("moved: ROOMS (bits) that are: six",
            SIX + "moved(63,0,1,1,0)=NONE moved(64,0,1,1,0)=BAD moved(0,63,999,1,0)=0 moved(0,64,999,1,0)=BAD moved(MIN,0,1,1,0)=BAD moved(0,MIN,1,1,0)=BAD moved(MAX,0,1,1,0)=BAD");
        say.hold("moved: BAD: a ROOM told as both, too", SIX + "moved(1,1,1,1,0)=BAD moved(32,48,1,1,0)=BAD moved(63,63,1,1,0)=BAD moved(32,31,4,1,0)=1 moved(32,31,4,1,1)=1");
        say.hold("moved: what", CLOCK + "moved(1,0,1,1,MIN)=BAD moved(1,0,1,1,-1)=BAD moved(1,0,1,1,0)=0 moved(1,0,1,1,1)=0 moved(1,0,1,1,2)=BAD moved(1,0,1,1,MAX)=BAD moved(1,0,2,1,2)=BAD");
        say.hold("moved: STATE: no HOUSE (ahead of BAD)", "moved(0,0,1,1,0)=STATE moved(-1,0,1,1,0)=STATE moved(1,1,1,1,0)=STATE moved(0,0,0,1,0)=STATE moved(0,0,1,25,0)=STATE moved(0,0,1,1,2)=STATE");
    }

    private static void sitWhere() {
        say.hold("3: SIT: n HOURS (1 to 24)", "house[n2,0,1,0;i1,0;]=1 sitWhere(0,0,MIN,1)=BAD sitWhere(0,0,-1,1)=BAD sitWhere(0,0,0,1)=BAD sitWhere(0,0,1,1)=1 sitWhere(0,0,24,1)=24 sitWhere(0,0,25,1)=BAD sitWhere(0,0,MAX,1)=BAD");
        say.hold("3: SIT: of several the first: all alike", SIX + "sitWhere(0,4,1,0)=0 sitWhere(0,4,1,1)=0 sitWhere(4,4,24,0)=0");
        say.hold("3: SIT: of several the first: some alike", "house[n4,0,16,0;p0,0;]=1 sitWhere(0,0,1,0)=0 house[n4,0,16,0;d0,1,1;p0,0;]=1 sitWhere(0,0,1,0)=1 sitWhere(0,0,1,1)=12 sitWhere(0,1,1,0)=0");
        say.hold("3: SIT: where it is", "house[n3,2,16,0;f2,3;]=1 sitWhere(0,2,2,0)=2 sitWhere(0,2,2,1)=20");
        say.hold("3: SIT: the last ROOM", "house[n6,5,16,0;f0,3;]=1 sitWhere(0,5,1,0)=5 sitWhere(0,5,1,1)=10");
        say.hold("3: SIT: one ROOM alone", "house[n1,0,16,0;f0,3;]=1 sitWhere(0,0,1,0)=0 sitWhere(0,0,1,1)=10");
        say.hold("sitWhere: BAD: a sitter", "sitWhere(0,0,1,0)=BAD" + SIX + "sitWhere(MIN,0,1,0)=BAD sitWhere(-1,0,1,0)=BAD sitWhere(0,0,1,0)=5 sitWhere(4,0,1,0)=1 sitWhere(5,0,1,0)=BAD sitWhere(MAX,0,1,0)=BAD");
        say.hold("sitWhere: BAD: a ROOM", SIX + "sitWhere(0,MIN,1,0)=BAD sitWhere(0,-1,1,0)=BAD sitWhere(0,0,1,0)=5 sitWhere(0,5,1,1)=17 sitWhere(0,6,1,0)=BAD sitWhere(0,MAX,1,0)=BAD");
        say.hold("sitWhere: what", SIX + "sitWhere(0,0,1,MIN)=BAD sitWhere(0,0,1,-1)=BAD sitWhere(0,0,1,0)=5 sitWhere(0,0,1,1)=2 sitWhere(0,0,1,2)=BAD sitWhere(0,0,1,MAX)=BAD");
        say.hold("sitWhere: BAD: no sitters", "house[n2,0,1,0;]=0 sitWhere(0,0,1,0)=BAD");
    }

    private static void ledAnswers() {
        say.hold("3: LED: the fewest HOURS (0 to 40): 0", CLOCK + "hours(5)=5 led(0,4,0)=0 led(0,5,0)=0 led(0,5,1)=NONE led(0,6,0)=1");
        say.hold("3: LED: the fewest HOURS (0 to 40): 40", CLOCK + "led(0,1,0)=1 led(0,39,0)=39 led(0,40,0)=40 led(0,41,0)=NONE led(0,41,1)=NONE");
        say.hold("3: LED: 40 HOURS by one who moves", "house[n2,0,0,0;i0,2;]=1 led(1,78,0)=39 led(1,79,0)=40 led(1,80,0)=40 led(1,80,1)=1 led(1,81,0)=NONE led(1,81,1)=NONE");
        say.hold("3: LED: none moves: NONE", "house[n2,0,5,0;r0,0;]=1 led(0,5,0)=1 led(0,5,1)=NONE led(0,10,0)=2 led(0,10,1)=NONE");
        say.hold("3: LED: none, where a move is no sooner", "house[n2,0,16,0;d0,1,1;r1,0;]=1 led(0,12,0)=1 led(0,12,1)=NONE led(0,13,0)=1 led(0,13,1)=0 led(1,4,1)=NONE");
        say.hold("3: LED: the first one: the sitter", "house[n2,0,0,0;i0,3;i0,3;]=2 led(1,3,0)=1 led(1,3,1)=1 sit(0,1)=0 led(1,3,1)=NONE led(1,6,0)=1 led(1,6,1)=11");
        say.hold("3: LED: the first one: the ROOM", "house[n4,0,16,0;d0,3,1;p0,0;]=1 led(3,4,0)=1 led(3,4,1)=1");
        say.hold("3: LED: the last sitter, the last ROOM", "house[n6,0,0,0;r0,0;r0,0;r0,0;r0,0;i0,9;]=5 led(5,9,0)=1 led(5,9,1)=45");
        say.hold("3: LED: never: NONE", "house[n2,0,5,0;]=0 led(1,1,0)=NONE led(1,1,1)=NONE house[n2,0,0,0;r0,0;f0,0;i1,0;]=3 led(0,1,0)=NONE led(0,1,1)=NONE");
    }

    private static void ledNumbers() {
        say.hold("3: LED: t (1 to 999)",
            "house[n1,0,40,0;]=0 led(0,MIN,0)=BAD led(0,-1,0)=BAD led(0,0,0)=BAD led(0,1,0)=1 led(0,999,0)=25 led(0,1000,0)=BAD led(0,MAX,0)=BAD hours(24)=960 led(0,999,0)=1");
        say.hold("led: BAD: a ROOM", SIX + "led(MIN,1,0)=BAD led(-1,1,0)=BAD led(0,1,0)=1 led(5,1,0)=1 led(6,1,0)=BAD led(MAX,1,0)=BAD");
        say.hold("led: what", CLOCK + "led(0,1,MIN)=BAD led(0,1,-1)=BAD led(0,1,0)=1 led(0,1,1)=NONE led(0,1,2)=BAD led(0,1,MAX)=BAD");
        say.hold("led: STATE: no HOUSE (ahead of BAD)", "led(0,1,0)=STATE led(-1,1,0)=STATE led(0,0,0)=STATE led(0,1000,0)=STATE led(0,1,2)=STATE");
    }

    private static void came() {
        say.hold("3: CAME: n HOURS (1 to 6)",
            CLOCK + "row(0,2,7)=7 set(0,0,1)=1 set(0,1,2)=2 set(0,2,3)=3 set(0,3,4)=4 set(0,4,5)=5 set(0,5,6)=6 set(0,6,7)=7",
            "came(0,0,MIN)=BAD came(0,0,-1)=BAD came(0,0,0)=BAD came(0,0,1)=1 came(0,0,5)=1 came(0,0,6)=1 came(0,0,7)=BAD came(0,0,MAX)=BAD");
        say.hold("3: CAME: the last HOUR is not so", CLOCK + "row(0,2,6)=6 set(0,0,1)=1 set(0,1,2)=2 set(0,2,3)=3 set(0,3,4)=4 set(0,4,5)=5 set(0,5,7)=7 came(0,0,5)=1 came(0,0,6)=0");
        say.hold("3: CAME: the last ROOM is not so", "house[n2,0,8,0;d0,1,1;]=0 row(0,0,2)=2 set(0,0,6)=6 set(0,1,3)=3 came(0,0,1)=0 set(0,1,2)=2 came(0,0,1)=1");
        say.hold("3: CAME: ROOM by ROOM, HOUR by HOUR",
            "house[n2,1,8,0;d0,1,1;]=0 row(0,0,4)=4 set(0,0,2)=2 set(0,1,6)=6 set(0,2,5)=5 set(0,3,11)=11 came(0,0,2)=2 set(0,1,5)=5 set(0,2,6)=6 came(0,0,2)=0");
        say.hold("3: CAME: ROOMS (bits): any, of no PARTS", "house[n6,3,0,0;]=0 row(0,0,36)=36 came(0,0,1)=63 came(0,0,6)=63 set(0,35,1)=1 came(0,0,6)=0 came(0,0,5)=63");
        say.hold("3: CAME: ROOMS (bits): the last one", "house[n6,0,9,0;]=0 row(0,0,6)=6 set(0,5,9)=9 came(0,0,1)=32 set(0,5,0)=0 set(0,0,9)=9 came(0,0,1)=1");
        say.hold("3: CAME: from now on", CLOCK + "row(0,2,2)=2 set(0,0,1)=1 set(0,1,2)=2 came(0,0,2)=1 hours(1)=1 came(0,0,1)=0 came(0,1,1)=1");
        say.hold("3: CAME: bytes and shorts by what they are",
            "house[n1,0,40,0;]=0 hours(3)=120 row(0,0,1)=1 set(0,0,160)=-96 came(0,0,1)=0 row(1,1,1)=1 set(1,0,160)=160 came(1,0,1)=1 set(1,0,65696)=160 came(1,0,1)=1");
    }

    private static void cameRefused() {
        say.hold("came: BAD: ROW", CLOCK + "row(0,0,1)=1 row(7,0,1)=1 came(MIN,0,1)=BAD came(-1,0,1)=BAD came(0,0,1)=0 came(7,0,1)=0 came(8,0,1)=BAD came(MAX,0,1)=BAD");
        say.hold("came: STATE: no HOUSE (ahead of BAD)", "came(0,0,1)=STATE came(-1,0,1)=STATE came(8,0,1)=STATE came(0,0,0)=STATE came(0,0,7)=STATE came(0,-1,1)=STATE");
        say.hold("came: NULL, ahead of PLACE", CLOCK + "came(0,0,1)=NULL came(0,-1,1)=NULL came(0,41,6)=NULL");
        say.hold("came: BAD ahead of NULL and PLACE", CLOCK + "came(0,0,7)=BAD came(0,0,0)=BAD came(8,-1,1)=BAD row(0,0,1)=1 came(0,9,7)=BAD");
        say.hold("came: PLACE: one ROOM", CLOCK + "row(0,0,6)=6 came(0,MIN,1)=PLACE came(0,-1,1)=PLACE came(0,0,6)=0 came(0,1,6)=PLACE came(0,5,1)=0 came(0,6,1)=PLACE came(0,MAX,1)=PLACE came(0,MAX,6)=PLACE");
        say.hold("came: n times as many ITEMS as ROOMS: six of 36", SIX + "row(0,0,35)=35 came(0,0,6)=PLACE came(0,0,5)=0 row(0,0,36)=36 came(0,0,6)=0 came(0,1,6)=PLACE row(0,0,40)=40 came(0,4,6)=0 came(0,5,6)=PLACE came(0,34,1)=0 came(0,35,1)=PLACE");
        say.hold("came: PLACE: no ITEMS", CLOCK + "row(0,0,0)=0 came(0,0,1)=PLACE");
    }

    private static void who() {
        say.hold("3: WHO: n HOURS (1 to 6)",
            "house[n1,0,0,0;r0,1;]=1 row(0,2,7)=7 set(0,0,1)=1 set(0,1,2)=2 set(0,2,3)=3 set(0,3,4)=4 set(0,4,5)=5 set(0,5,6)=6",
            "who(0,0,0,MIN)=BAD who(0,0,0,-1)=BAD who(0,0,0,0)=BAD who(0,0,0,1)=32 who(0,0,0,6)=32 who(0,0,0,7)=BAD who(0,0,0,MAX)=BAD");
        say.hold("3: WHO: KINDS (bits 1 to 5): any", "house[n1,0,3,0;r0,0;]=1 row(0,0,1)=1 set(0,0,3)=3 who(0,0,0,1)=62");
        say.hold("3: WHO: KINDS (bits 1 to 5): none", "house[n1,0,3,0;r0,0;]=1 row(0,0,1)=1 set(0,0,4)=4 who(0,0,0,1)=0");
        say.hold("3: WHO: each KIND alone",
            "house[n2,0,16,0;d0,1,1;r0,1;]=1 row(0,0,10)=10 set(0,0,14)=14 set(0,1,2)=2 who(0,0,0,1)=2 set(0,2,16)=16 who(0,0,2,1)=4",
            "set(0,4,13)=13 set(0,5,2)=2 who(0,0,4,1)=8 set(0,6,10)=10 set(0,7,4)=4 who(0,0,6,1)=16 set(0,8,13)=13 set(0,9,4)=4 who(0,0,8,1)=32 kind(0)=1");
        say.hold("3: WHO: the last HOUR is not so", "house[n1,0,0,0;i0,1;]=1 row(0,0,2)=2 set(0,0,1)=1 set(0,1,3)=3 who(0,0,0,1)=32 who(0,0,0,2)=0");
        say.hold("3: WHO: the last sitter, all else as it is", "house[n1,0,0,0;r0,9;r0,9;p0,9;t0,0;i0,2;]=5 row(0,0,1)=1 set(0,0,2)=2 who(4,0,0,1)=32 who(0,0,0,1)=30 who(3,0,0,1)=62");
    }

    private static void whoRefused() {
        say.hold("who: BAD: SITTER", "who(0,0,0,1)=BAD" + SIX + "row(0,0,6)=6 who(MIN,0,0,1)=BAD who(-1,0,0,1)=BAD who(0,0,0,1)=0 who(4,0,0,1)=0 who(5,0,0,1)=BAD who(MAX,0,0,1)=BAD");
        say.hold("who: BAD: ROW", SIX + "row(0,0,6)=6 row(7,0,6)=6 who(0,MIN,0,1)=BAD who(0,-1,0,1)=BAD who(0,0,0,1)=0 who(0,7,0,1)=0 who(0,8,0,1)=BAD who(0,MAX,0,1)=BAD");
        say.hold("who: NULL, ahead of PLACE", SIX + "who(0,0,0,1)=NULL who(0,0,-1,1)=NULL who(0,0,41,6)=NULL");
        say.hold("who: BAD ahead of NULL and PLACE", SIX + "who(5,0,0,1)=BAD who(0,0,0,7)=BAD who(0,8,-1,1)=BAD row(0,0,1)=1 who(0,0,9,0)=BAD who(5,0,0,6)=BAD");
        say.hold("who: PLACE", SIX + "row(0,0,36)=36 who(0,0,MIN,1)=PLACE who(0,0,-1,1)=PLACE who(0,0,0,6)=0 who(0,0,1,6)=PLACE who(0,0,30,1)=0 who(0,0,31,1)=PLACE who(0,0,MAX,6)=PLACE row(0,0,35)=35 who(0,0,0,6)=PLACE row(0,0,0)=0 who(0,0,0,1)=PLACE");
        say.hold("who: BAD: no sitters", CLOCK + "row(0,0,1)=1 who(0,0,0,1)=BAD");
    }

    private static void parted() {
        say.hold("3: PARTED: none to be shut", "house[n3,0,0,0;d0,1,0;]=0 parted(0,1,0)=0 parted(0,1,1)=0 parted(0,2,0)=0 parted(0,2,1)=0");
        say.hold("3: PARTED: of the same ROOM: NONE", "house[n3,0,0,0;d0,1,1;]=0 parted(0,0,0)=NONE parted(0,0,1)=NONE parted(2,2,0)=NONE parted(2,2,1)=NONE");
        say.hold("3: PARTED: one", "house[n2,0,0,0;d0,1,1;]=0 parted(0,1,0)=1 parted(0,1,1)=1 parted(1,0,0)=1 parted(1,0,1)=1");
        say.hold("3: PARTED: all of eight", "house[n2,0,0,0;" + EIGHT_OPEN + "]=0 parted(0,1,0)=8 parted(0,1,1)=255 door(3,0)=247 parted(1,0,0)=7 parted(1,0,1)=247");
        say.hold("3: PARTED: by whatever ROOMS: of several the least", "house[n6,0,0,0;d4,5,1;d3,4,1;d2,3,1;d1,2,1;d0,1,1;]=0 parted(0,5,0)=1 parted(0,5,1)=1 parted(0,3,1)=4 parted(5,0,1)=1");
        say.hold("3: PARTED: the fewest ahead of the least", "house[n3,0,0,0;d0,1,1;d0,1,1;d1,2,1;]=0 parted(0,2,0)=1 parted(0,2,1)=4 parted(0,1,0)=2 parted(0,1,1)=3");
        say.hold("3: PARTED: DOORS that are shut are none", "house[n3,0,0,0;d0,2,0;d0,1,1;d1,2,1;]=0 parted(0,2,0)=1 parted(0,2,1)=2 door(0,1)=7 parted(0,2,0)=2 parted(0,2,1)=3");
        say.hold("3: PARTED: without DOORS", "house[n2,0,0,0;]=0 parted(0,1,0)=0 parted(0,1,1)=0");
    }

    private static void partedRefused() {
        say.hold("parted: BAD: ROOMS", SIX + "parted(MIN,0,0)=BAD parted(-1,0,0)=BAD parted(0,5,0)=1 parted(5,0,0)=1 parted(6,0,0)=BAD parted(0,-1,0)=BAD parted(0,6,0)=BAD parted(0,MAX,0)=BAD parted(6,6,0)=BAD");
        say.hold("parted: what", SIX + "parted(0,5,MIN)=BAD parted(0,5,-1)=BAD parted(0,5,0)=1 parted(0,5,1)=1 parted(0,5,2)=BAD parted(0,5,MAX)=BAD parted(0,0,2)=BAD");
        say.hold("parted: STATE: no HOUSE (ahead of BAD)", "parted(0,1,0)=STATE parted(-1,0,0)=STATE parted(0,6,0)=STATE parted(0,1,2)=STATE parted(0,0,0)=STATE");
    }

    private static void coldest() {
        say.hold("3: COLDEST: n HOURS (0 to 60)", CLOCK + "coldest(MIN,1)=BAD coldest(-1,1)=BAD coldest(0,1)=0 coldest(1,1)=1 coldest(59,1)=59 coldest(60,1)=60 coldest(61,1)=BAD coldest(MAX,1)=BAD");
        say.hold("3: COLDEST: of several the first: no COLD", SIX + "coldest(0,0)=0 coldest(0,1)=0");
        say.hold("3: COLDEST: of several the first: two alike", "house[n4,3,9,0;i1,9;]=1 coldest(1,0)=1 coldest(1,1)=9 sit(0,2)=1 coldest(60,0)=2 sit(0,3)=2 coldest(60,0)=3");
        say.hold("3: COLDEST: one part more is colder", "house[n4,3,10,0;i1,9;]=1 coldest(1,0)=3 coldest(1,1)=10 house[n4,3,9,0;i1,10;]=1 coldest(1,0)=1");
        say.hold("3: COLDEST: the last ROOM", "house[n6,5,9,0;]=0 coldest(1,0)=5 coldest(1,1)=9");
        say.hold("coldest: what", CLOCK + "coldest(1,MIN)=BAD coldest(1,-1)=BAD coldest(1,0)=0 coldest(1,1)=1 coldest(1,2)=BAD coldest(1,MAX)=BAD");
        say.hold("coldest: STATE: no HOUSE (ahead of BAD)", "coldest(0,0)=STATE coldest(-1,0)=STATE coldest(61,0)=STATE coldest(0,2)=STATE");
    }

    private static void guest() {
        say.hold("3: GUEST: it, too: alone", "house[n1,0,0,0;]=0 guest(0)=1 house[n6,0,0,0;]=0 guest(0)=1 guest(5)=32");
        say.hold("3: GUEST: by whatever ROOMS: all", "house[n6,0,0,0;d4,5,1;d3,4,1;d2,3,1;d1,2,1;d0,1,1;]=0 guest(0)=63 guest(3)=63 guest(5)=63 door(2,0)=27 guest(0)=7 guest(5)=56");
        say.hold("3: GUEST: OPEN DOORS", "house[n2,0,0,0;d0,1,0;d1,0,1;]=0 guest(0)=3 door(1,0)=0 guest(0)=1 guest(1)=2");
        say.hold("guest: BAD", SIX + "guest(MIN)=BAD guest(-1)=BAD guest(0)=41 guest(5)=41 guest(4)=16 guest(6)=BAD guest(MAX)=BAD");
        say.hold("guest: STATE: no HOUSE (ahead of BAD)", "guest(0)=STATE guest(-1)=STATE guest(6)=STATE");
    }

    private static void windAnswers() {
        say.hold("3: WIND by p of 10 (0 to 10)",
            "house[n2,0,16,12;d0,1,1;]=0 wind(0,MIN,0)=BAD wind(0,-1,0)=BAD wind(0,0,0)=0 wind(0,0,1)=1 wind(0,1,0)=1 wind(0,1,1)=10",
            "wind(0,9,0)=9 wind(0,9,1)=10 wind(0,10,0)=1 wind(0,10,1)=1 wind(0,11,0)=BAD wind(0,MAX,0)=BAD");
        say.hold("3: WIND: above LIMIT", "house[n2,0,16,11;d0,1,1;]=0 wind(0,0,0)=1 house[n2,0,16,12;d0,1,1;]=0 wind(0,0,0)=0 house[n2,0,16,15;d0,1,1;]=0 wind(0,10,0)=1 house[n2,0,16,16;d0,1,1;]=0 wind(0,10,0)=0");
        say.hold("fractions, told as two numbers in lowest terms",
            "house[n2,0,16,12;d0,1,1;]=0 wind(0,2,0)=1 wind(0,2,1)=5 wind(0,4,0)=2 wind(0,4,1)=5 wind(0,5,0)=1 wind(0,5,1)=2 wind(0,6,0)=3 wind(0,6,1)=5 wind(0,8,0)=4 wind(0,8,1)=5");
        say.hold("fractions (0 is 0 by 1)", "house[n2,0,16,16;d0,1,1;]=0 wind(0,3,0)=0 wind(0,3,1)=1 house[n2,0,0,0;]=0 wind(1,5,0)=0 wind(1,5,1)=1 wind(0,0,1)=1 wind(0,10,1)=1");
        say.hold("fractions: 1 is 1 by 1", "house[n2,0,16,0;d0,1,1;]=0 wind(0,3,0)=1 wind(0,3,1)=1 house[n1,0,1,0;]=0 wind(0,5,0)=1 wind(0,5,1)=1");
        say.hold("3: WIND: each OPEN DOOR, others not", "house[n2,0,16,12;d0,1,0;d0,1,1;d0,1,0;]=0 wind(0,3,0)=3 wind(0,3,1)=10 door(1,0)=0 wind(0,3,0)=1 wind(0,3,1)=1");
        say.hold("3: WIND: eight DOORS, all shut", "house[n2,0,40,39;" + EIGHT_OPEN + "]=0 wind(0,1,0)=1 wind(0,1,1)=100000000 wind(0,9,0)=43046721 wind(0,9,1)=100000000 wind(0,5,0)=1 wind(0,5,1)=256 wind(0,10,1)=1 wind(0,0,0)=0");
        say.hold("3: WIND: eight DOORS, not all shut", "house[n2,0,40,0;" + EIGHT_OPEN + "]=0 wind(1,1,0)=99999999 wind(1,1,1)=100000000 wind(1,10,0)=0 wind(1,10,1)=1 wind(1,0,0)=1");
        say.hold("3: WIND: for this HOUR", "house[n2,0,16,12;d0,1,1;]=0 wind(0,5,0)=1 wind(0,5,1)=2 count(6)=1 hours(1)=16 wind(0,5,0)=1 wind(0,5,1)=1 wind(1,5,0)=0");
    }

    private static void windRefused() {
        say.hold("wind: BAD: a ROOM", SIX + "wind(MIN,5,0)=BAD wind(-1,5,0)=BAD wind(0,5,1)=2 wind(5,5,0)=1 wind(6,5,0)=BAD wind(MAX,5,0)=BAD");
        say.hold("wind: what", SIX + "wind(5,5,MIN)=BAD wind(5,5,-1)=BAD wind(5,5,0)=1 wind(5,5,1)=1 wind(5,5,2)=BAD wind(5,5,MAX)=BAD");
        say.hold("wind: STATE: no HOUSE (ahead of BAD)", "wind(0,5,0)=STATE wind(-1,5,0)=STATE wind(0,11,0)=STATE wind(0,-1,0)=STATE wind(0,5,2)=STATE");
    }

    private static void drawnAnswers() {
        say.hold("3: HOURS of n (0 to 60) by a SEED", "house[n1,0,1,29;r0,0;]=1 drawn(MIN,1,0)=BAD drawn(-1,1,0)=BAD drawn(0,1,0)=0 drawn(0,1,1)=0 drawn(1,1,0)=1 drawn(30,1,1)=1 drawn(60,1,0)=60 drawn(60,1,1)=31 drawn(61,1,0)=BAD drawn(MAX,1,0)=BAD");
        say.hold("3: the DOOR (none: nothing)", "house[n2,0,9,9;r0,0;]=1 drawn(1,1,0)=9 drawn(1,1,1)=0 drawn(2,1,1)=1 drawn(60,999999,0)=540");
        // of two doors seed 1 moves 1, 1, 1, 0, and seed 999999 moves 0, 0, 1, 1; only door 0 leads to the fire
        String two = " house[n3,0,16,99;d0,1,0;d0,2,0;f1,2;]=1 ";
        say.hold("3: X at first is the SEED: 1", two + "drawn(1,1,0)=16 drawn(2,1,0)=32 drawn(3,1,0)=48 drawn(4,1,0)=60");
        say.hold("3: X at first is the SEED: 999999", two + "drawn(1,999999,0)=12 drawn(2,999999,0)=28 drawn(3,999999,0)=44");
        // of three doors seed 1 moves 1, 1, 2, 2, 1: X passes 2147483647 at the second, and at each one then
        String three = " house[n4,0,16,99;d0,1,0;d0,2,0;d0,3,0;f1,20;f2,1;f3,2;]=3 ";
        say.hold("3: the rest of (X times 16807) by 2147483647", three + "drawn(1,1,0)=14 drawn(2,1,0)=28 drawn(3,1,0)=40");
        say.hold("3: one DOOR alone, each HOUR", "house[n2,0,16,99;d0,1,0;f1,2;]=1 drawn(1,1,0)=12 drawn(2,1,0)=28 drawn(1,999999,0)=12");
        say.hold("3: behind how many of these anybody SHIVERS: at the LIMIT", "house[n1,0,10,20;r0,0;]=1 drawn(2,7,1)=0 drawn(3,7,1)=1 hours(3)=30 drawn(0,7,1)=0 drawn(1,7,1)=1");
        say.hold("3: behind how many of these anybody SHIVERS: nobody there", "house[n1,0,40,0;]=0 drawn(60,7,1)=0 drawn(60,7,0)=999");
    }

    private static void drawnRefused() {
        say.hold("drawn: a SEED (1 to 999999)", CLOCK + "drawn(1,MIN,0)=BAD drawn(1,-1,0)=BAD drawn(1,0,0)=BAD drawn(1,1,0)=1 drawn(1,999999,0)=1 drawn(1,1000000,0)=BAD drawn(1,MAX,0)=BAD");
        say.hold("drawn: what", CLOCK + "drawn(1,1,MIN)=BAD drawn(1,1,-1)=BAD drawn(1,1,0)=1 drawn(1,1,1)=0 drawn(1,1,2)=BAD drawn(1,1,MAX)=BAD");
        say.hold("drawn: STATE: no HOUSE (ahead of BAD)", "drawn(0,1,0)=STATE drawn(-1,1,0)=STATE drawn(61,1,0)=STATE drawn(0,0,0)=STATE drawn(0,1000000,0)=STATE drawn(0,1,2)=STATE");
    }
}

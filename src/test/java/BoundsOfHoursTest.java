/** The sentences of 'Terms' on hours and acts, and of promises 9 to 15, at their bounds. */
public final class BoundsOfHoursTest {
    private static final Sentences say = new Sentences("BoundsOfHoursTest");
    private static final String SIX = " house[n6,5,8,3;d0,5,1;d5,1,0;d1,2,0;d2,3,0;d3,4,0;d0,1,0;d0,2,0;d0,3,1;r0,1;p1,2;t2,3;f3,4;i5,5;]=5 ";

    public static void main(String[] args) {
        parts();
        fourths();
        halves();
        none();
        warmsAndChills();
        hour();
        kinds();
        limit();
        acts();
        undo();
        hours();
        hoursFull();
        door();
        sit();
        room();
        doorHas();
        sitter();
        say.end();
    }

    private static void parts() {
        say.hold("2: PARTS come into IN (999 at most there): to 999", "house[n1,0,37,0;]=0 hours(24)=888 hours(2)=962 hours(1)=999 hours(1)=999");
        say.hold("2: PARTS come into IN (999 at most there): beyond 999", "house[n1,0,39,0;]=0 hours(24)=936 hours(1)=975 hours(1)=999 hours(24)=999");
        say.hold("2: PARTS come into IN (999 at most there): to 998", "house[n1,0,2,0;]=0 20*hours(24) hours(19)=998 hours(1)=999 hours(1)=999");
        say.hold("2: PARTS come into IN, ahead of the doors",
            "house[n2,0,40,0;d0,1,1;p0,0;]=1 hours(24)=960 hours(1)=999 sit(0,1)=0 hours(1)=999 room(0,0)=750 room(1,0)=249");
        say.hold("2: PARTS come into IN: none", "house[n2,0,0,0;d0,1,1;]=0 hours(24)=0 room(0,0)=0 room(1,0)=0");
        say.hold("2: PARTS come into IN: the last ROOM", "house[n6,5,40,0;]=0 hours(1)=40 room(5,0)=40 room(0,0)=0 room(4,0)=0");
    }

    private static void fourths() {
        say.hold("2: a fourth of what that is more (cut): 3", "house[n2,0,3,0;d0,1,1;]=0 hours(1)=3 room(0,0)=3 room(1,0)=0");
        say.hold("2: a fourth of what that is more (cut): 4", "house[n2,0,4,0;d0,1,1;]=0 hours(1)=4 room(0,0)=3 room(1,0)=1");
        say.hold("2: a fourth of what that is more (cut): 5", "house[n2,0,5,0;d0,1,1;]=0 hours(1)=5 room(0,0)=4 room(1,0)=1");
        say.hold("2: a fourth of what that is more (cut): 7", "house[n2,0,7,0;d0,1,1;]=0 hours(1)=7 room(0,0)=6 room(1,0)=1");
        say.hold("2: a fourth of what that is more (cut): 8", "house[n2,0,8,0;d0,1,1;]=0 hours(1)=8 room(0,0)=6 room(1,0)=2");
        say.hold("2: cut towards 0, from B to A: 3, 4, 7",
            "house[n2,1,3,0;d0,1,1;]=0 hours(1)=3 room(1,0)=3 house[n2,1,4,0;d0,1,1;]=0 hours(1)=4 room(0,0)=1",
            "house[n2,1,7,0;d0,1,1;]=0 hours(1)=7 room(0,0)=1 room(1,0)=6");
        say.hold("2: colder by how cold they are just then: none is colder",
            "house[n2,0,8,0;d0,1,0;i1,8;]=1 hours(1)=16 room(0,0)=8 room(1,0)=8 door(0,1)=1 sit(0,0)=1 ahead(1,1)=10 ahead(1,0)=22");
        say.hold("2: DOOR by DOOR, in order", "house[n3,0,16,0;d0,1,1;d1,2,1;]=0 hours(1)=16 room(0,0)=12 room(1,0)=3 room(2,0)=1",
            "house[n3,0,16,0;d1,2,1;d0,1,1;]=0 hours(1)=16 room(0,0)=12 room(1,0)=4 room(2,0)=0");
        say.hold("2: if it is OPEN", "house[n2,0,40,0;d0,1,0;]=0 hours(1)=40 room(0,0)=40 door(0,1)=1 hours(1)=80 room(1,0)=20");
        say.hold("2: two between the same, one by one", "house[n2,0,16,0;d0,1,1;d1,0,1;]=0 hours(1)=16 room(0,0)=10 room(1,0)=6");
        say.hold("2: a fourth of the most", "house[n2,0,40,0;d0,1,1;p0,0;]=1 2*hours(24) sit(0,1)=0 ahead(1,1)=249 ahead(1,0)=750");
    }

    private static void halves() {
        say.hold("2: half of this (cut): of 1", "house[n2,0,7,0;d0,1,1;r0,0;]=1 hours(1)=7 room(0,0)=7 room(1,0)=0");
        say.hold("2: half of this (cut): of 2", "house[n2,0,8,0;d0,1,1;r0,0;]=1 hours(1)=8 room(0,0)=7 room(1,0)=1");
        say.hold("2: half of this (cut): of 3", "house[n2,0,15,0;d0,1,1;r0,0;]=1 hours(1)=15 room(0,0)=14 room(1,0)=1");
        say.hold("2: half of this (cut): of 4", "house[n2,0,16,0;d0,1,1;r0,0;]=1 hours(1)=16 room(0,0)=14 room(1,0)=2");
        say.hold("2: half of a fourth that is cut: 14 is 3, and 1", "house[n2,0,14,0;d0,1,1;r0,0;]=1 hours(1)=14 room(1,0)=1");
        say.hold("2: if anybody HOLDS: two as one", "house[n2,0,16,0;d0,1,1;r0,0;t0,0;]=2 room(0,2)=1 hours(1)=16 room(1,0)=2");
        say.hold("2: if anybody HOLDS: five as one", "house[n2,0,16,0;d0,1,1;r0,0;r0,0;t0,0;r0,0;t0,0;]=5 room(0,2)=1 hours(1)=16 room(1,0)=2");
        say.hold("2: HOLDS where it goes from, not where it goes to", "house[n2,0,16,0;d0,1,1;r1,0;t1,0;]=2 hours(1)=16 room(1,0)=4");
        say.hold("2: HOLDS, from B to A", "house[n2,1,16,0;d0,1,1;r1,0;]=1 hours(1)=16 room(0,0)=2 house[n2,1,16,0;d0,1,1;r0,0;]=1 hours(1)=16 room(0,0)=4");
    }

    private static void none() {
        say.hold("2: if anybody KEEPS it there, none", "house[n2,0,40,0;d0,1,1;p0,0;]=1 hours(5)=200 room(0,0)=200 room(1,0)=0");
        say.hold("2: if anybody KEEPS it there: two as one", "house[n2,0,40,0;d0,1,1;p0,0;p0,0;]=2 room(0,3)=1 hours(1)=40 room(1,0)=0 sit(0,1)=0 hours(1)=80 room(1,0)=0");
        say.hold("2: KEEPS, though others hold", "house[n2,0,40,0;d0,1,1;r0,0;p0,0;t0,0;]=3 hours(1)=40 room(1,0)=0");
        say.hold("2: KEEPS where it goes from, not where it goes to", "house[n2,0,40,0;d0,1,1;p1,0;]=1 hours(1)=40 room(1,0)=10");
        say.hold("2: KEEPS, from B to A", "house[n2,1,40,0;d0,1,1;p1,0;]=1 hours(1)=40 room(0,0)=0");
    }

    private static void warmsAndChills() {
        say.hold("2: less by what it WARMS (0 to 999): a talker", "house[n1,0,4,0;t0,5;]=1 hours(1)=0 house[n1,0,5,0;t0,5;]=1 hours(1)=0 house[n1,0,6,0;t0,5;]=1 hours(1)=1");
        say.hold("2: less by what it WARMS (0 to 999): a fire, twice", "house[n1,0,9,0;f0,5;]=1 hours(1)=0 house[n1,0,10,0;f0,5;]=1 hours(1)=0 house[n1,0,11,0;f0,5;]=1 hours(1)=1");
        say.hold("2: more by what it CHILLS (0 to 999): beyond 999", "house[n1,0,0,0;i0,20;]=1 2*hours(24) hours(1)=980 hours(1)=999 hours(1)=999");
        say.hold("2: more by what it CHILLS (0 to 999): to 999", "house[n1,0,0,0;i0,3;]=1 13*hours(24) hours(20)=996 hours(1)=999 hours(1)=999");
        say.hold("2: more by what it CHILLS (0 to 999): to 998", "house[n1,0,0,0;i0,2;]=1 20*hours(24) hours(18)=996 hours(1)=998 hours(1)=999");
        say.hold("2: SITTER by SITTER: 0 at least, then more", "house[n1,0,1,0;f0,20;i0,3;]=2 hours(1)=3 house[n1,0,1,0;i0,3;f0,20;]=2 hours(1)=0");
        say.hold("2: SITTER by SITTER: 999 at most, then less",
            "house[n1,0,40,0;i0,20;t0,1;]=2 hours(16)=944 hours(1)=998 hours(1)=998 house[n1,0,40,0;t0,1;i0,20;]=2 hours(16)=944 hours(1)=999");
        say.hold("2: of no FORCE: nothing", "house[n1,0,9,0;t0,0;f0,0;i0,0;r0,20;p0,20;]=5 hours(2)=18");
        say.hold("2: of the most FORCE", "house[n3,0,40,0;t0,20;i1,20;f2,20;]=3 hours(1)=40 room(0,0)=20 room(1,0)=20 room(2,0)=0 sit(2,0)=2 hours(1)=40 room(0,0)=0");
        say.hold("2: COLD of its ROOM, behind the doors", "house[n2,0,8,0;d0,1,1;f0,10;i1,4;]=2 hours(1)=6 room(0,0)=0 room(1,0)=6");
    }

    private static void hour() {
        say.hold("2: HOUR is 1 more", "house[n1,0,0,0;]=0 count(4)=0 hours(1)=0 count(4)=1 hours(1)=0 count(4)=2 hours(24)=0 count(4)=26 undo()=23 count(4)=25");
    }

    private static void kinds() {
        say.hold("2: a reader HOLDS", "house[n1,0,0,0;r0,0;]=1 room(0,2)=1 room(0,3)=0");
        say.hold("2: a pianist KEEPS (and HOLDS)", "house[n1,0,0,0;p0,0;]=1 room(0,2)=1 room(0,3)=1");
        say.hold("2: a talker HOLDS", "house[n1,0,0,0;t0,0;]=1 room(0,2)=1 room(0,3)=0");
        say.hold("2: a fire does neither", "house[n1,0,0,0;f0,0;]=1 room(0,2)=0 room(0,3)=0");
        say.hold("2: ice does neither", "house[n1,0,0,0;i0,0;]=1 room(0,2)=0 room(0,3)=0");
        say.hold("2: nobody does neither", "house[n1,0,0,0;]=0 room(0,2)=0 room(0,3)=0");
    }

    private static void limit() {
        say.hold("2: COLD above LIMIT SHIVERS: 5 of 5, 6 of 5", "house[n1,0,1,5;r0,0;]=1 hours(4)=4 sitter(0,2)=0 hours(1)=5 sitter(0,2)=0 hours(1)=6 sitter(0,2)=1");
        say.hold("2: COLD above LIMIT SHIVERS: of 0", "house[n1,0,1,0;r0,0;]=1 sitter(0,2)=0 hours(1)=1 sitter(0,2)=1");
        say.hold("2: COLD above LIMIT SHIVERS: of 99", "house[n1,0,1,99;i0,0;]=1 4*hours(24) hours(3)=99 sitter(0,2)=0 hours(1)=100 sitter(0,2)=1 undo()=23 sitter(0,2)=0");
        say.hold("2: who is in a ROOM: each SORT, none elsewhere",
            "house[n2,0,9,8;r0,0;p0,0;t0,0;f0,0;i1,0;]=5 hours(1)=9 sitter(0,2)=1 sitter(1,2)=1 sitter(2,2)=1 sitter(3,2)=1 sitter(4,2)=0",
            "sit(4,0)=1 sitter(4,2)=1");
    }

    private static void acts() {
        say.hold("2: ACTS (24 at most are kept): 23", "house[n1,0,1,0;]=0 hours(23)=23 count(7)=23 23*undo() count(4)=0 undo()=STATE");
        say.hold("2: ACTS (24 at most are kept): 24", "house[n1,0,1,0;]=0 hours(24)=24 count(7)=24 23*undo() undo()=0 count(4)=0 undo()=STATE");
        say.hold("2: of more the oldest is forgotten: 25", "house[n1,0,1,0;]=0 hours(24)=24 hours(1)=25 count(7)=24 23*undo() undo()=0 count(4)=1 count(5)=1 undo()=STATE");
        say.hold("2: of more the oldest is forgotten: a door, a sitter",
            "house[n2,0,0,0;d0,1,0;r0,0;]=1 door(0,1)=1 sit(0,1)=0 count(7)=2 hours(22)=0 count(7)=24 hours(1)=0 count(7)=24",
            "23*undo() count(7)=1 sitter(0,0)=1 undo()=0 sitter(0,0)=0 undo()=STATE count(6)=1");
        say.hold("2: of more the oldest is forgotten: twice round, and on",
            "house[n1,0,1,0;]=0 hours(24)=24 hours(24)=48 hours(7)=55 count(7)=24 5*undo() hours(3)=53 count(7)=22 21*undo() undo()=0 count(5)=31 undo()=STATE");
        say.hold("2: ACTS: an HOUR; a DOOR is OPEN, or not; a sitter sits in another ROOM",
            "house[n2,0,8,0;d0,1,1;r0,0;]=1 hours(1)=8 count(7)=1 door(0,0)=0 count(7)=2 door(0,1)=1 count(7)=3 sit(0,1)=0 count(7)=4",
            "undo()=3 sitter(0,0)=0 undo()=2 count(6)=0 undo()=1 count(6)=1 undo()=0 count(4)=0 room(0,0)=0 room(1,0)=0 undo()=STATE");
        say.hold("2: nothing else is an ACT",
            "house[n2,0,8,0;d0,1,1;r0,0;]=1 row(0,0,1)=1 set(0,0,1)=1 ask(0,0)=0 image(0)=1 feed(1)=1 ahead(9,0) drawn(9,9,0) count(7)=0 undo()=STATE");
        say.hold("2: what is refused is no ACT",
            "house[n2,0,8,0;d0,1,1;r0,0;]=1 hours(0)=BAD hours(25)=BAD door(0,1)=STATE door(1,0)=BAD sit(0,0)=STATE sit(0,2)=BAD count(7)=0 undo()=STATE");
    }

    private static void undo() {
        say.hold("undo: how many can be undone yet", "house[n1,0,3,0;]=0 hours(3)=9 undo()=2 undo()=1 undo()=0 undo()=STATE count(5)=0");
        say.hold("undo: STATE: none, without a HOUSE", "undo()=STATE row(0,0,1)=1 undo()=STATE");
        say.hold("undo: STATE: none, behind a HOUSE that is read", "house[n1,0,3,0;]=0 hours(3)=9 house[n1,0,3,0;]=0 undo()=STATE");
        say.hold("undo: STATE: none, behind an IMAGE", "house[n1,0,3,0;]=0 hours(3)=9 image(0)=1 count(7)=3 hours(1)=12 restore(0)=1 undo()=STATE count(5)=9");
        say.hold("undo: and anew", "house[n1,0,3,0;]=0 hours(3)=9 undo()=2 hours(2)=12 count(7)=4 undo()=3 undo()=2 count(5)=6");
    }

    private static void hours() {
        say.hold("hours: n HOURS (1 to 24)", "house[n1,0,1,0;]=0 hours(MIN)=BAD hours(-1)=BAD hours(0)=BAD hours(1)=1 hours(2)=3 hours(23)=26 hours(24)=50 hours(25)=BAD hours(MAX)=BAD count(4)=50");
        say.hold("hours: an ACT each", "house[n1,0,1,0;]=0 hours(5)=5 count(7)=5 undo()=4 count(5)=4");
        say.hold("hours: all COLD", "house[n3,0,16,0;d0,1,1;i2,3;]=1 hours(1)=19 room(0,0)=12 room(1,0)=4 room(2,0)=3");
        say.hold("hours: STATE: no HOUSE (ahead of BAD)", "hours(1)=STATE hours(0)=STATE hours(25)=STATE hours(MAX)=STATE");
    }

    private static void hoursFull() {
        say.hold("hours: FULL: more than 999 would be gone: by 1",
            "house[n1,0,0,0;]=0 41*hours(24) hours(14)=0 count(4)=998 hours(2)=FULL hours(24)=FULL hours(1)=0 count(4)=999 hours(1)=FULL hours(24)=FULL count(4)=999");
        say.hold("hours: FULL: more than 999 would be gone: by 24",
            "house[n1,0,0,0;]=0 40*hours(24) hours(15)=0 count(4)=975 hours(24)=0 count(4)=999 hours(24)=FULL");
        say.hold("hours: FULL: 976 and 24", "house[n1,0,0,0;]=0 40*hours(24) hours(16)=0 count(4)=976 hours(24)=FULL count(4)=976 hours(23)=0 count(4)=999");
        say.hold("hours: BAD ahead of FULL", "house[n1,0,0,0;]=0 41*hours(24) hours(15)=0 hours(0)=BAD hours(25)=BAD hours(-1)=BAD hours(MAX)=BAD hours(1)=FULL");
        say.hold("hours: FULL, and undone", "house[n1,0,0,0;]=0 41*hours(24) hours(15)=0 hours(1)=FULL undo()=23 hours(2)=FULL hours(1)=0 hours(1)=FULL");
        say.hold("hours: FULL, and another HOUSE", "house[n1,0,0,0;]=0 41*hours(24) hours(15)=0 hours(1)=FULL house[n1,0,1,0;]=0 hours(24)=24");
        say.hold("hours: FULL, and what is foretold goes on",
            "house[n1,0,1,0;t0,1;i0,1;]=2 41*hours(24) hours(15)=999 hours(1)=FULL ahead(60,0)=999 allAhead(60)=999 drawn(60,1,1)=60 coldest(60,1)=999 sit(0,0)=STATE");
    }

    private static void door() {
        say.hold("door: BAD: a DOOR", "door(0,1)=BAD door(0,0)=BAD" + SIX + "door(MIN,0)=BAD door(-1,0)=BAD door(0,0)=128 door(7,0)=0 door(8,0)=BAD door(8,1)=BAD door(MAX,0)=BAD");
        say.hold("door: BAD: of none", "house[n2,0,0,0;]=0 door(0,0)=BAD door(0,1)=BAD");
        say.hold("door: opened (1), or shut (0)", SIX + "door(1,-1)=BAD door(1,2)=BAD door(1,MAX)=BAD door(1,MIN)=BAD door(1,1)=131 door(1,0)=129 doorHas(1,2)=0");
        say.hold("door: OPEN ones (bits)", "house[n2,0,0,0;" + "d0,1,0;".repeat(8) + "]=0 door(0,1)=1 door(1,1)=3 door(2,1)=7 door(3,1)=15 door(4,1)=31 door(5,1)=63 door(6,1)=127 door(7,1)=255 door(0,0)=254");
        say.hold("door: STATE: it is so", SIX + "door(0,1)=STATE door(1,0)=STATE door(7,1)=STATE count(6)=129 count(7)=0 door(0,0)=128 door(0,0)=STATE");
        say.hold("door: BAD ahead of STATE", SIX + "door(0,2)=BAD door(8,1)=BAD door(8,2)=BAD");
    }

    private static void sit() {
        say.hold("sit: the one where it was", SIX + "sit(4,0)=5 sit(4,4)=0 sit(4,5)=4 sitter(4,0)=5 sit(0,5)=0 room(5,1)=17");
        say.hold("sit: BAD: a sitter", "sit(0,0)=BAD" + SIX + "sit(MIN,1)=BAD sit(-1,1)=BAD sit(0,1)=0 sit(4,1)=5 sit(5,1)=BAD sit(MAX,1)=BAD");
        say.hold("sit: BAD: a ROOM", SIX + "sit(1,MIN)=BAD sit(1,-1)=BAD sit(1,0)=1 sit(1,5)=0 sit(1,6)=BAD sit(1,MAX)=BAD sitter(1,0)=5");
        say.hold("sit: BAD: of none", "house[n2,0,0,0;]=0 sit(0,0)=BAD sit(0,1)=BAD");
        say.hold("sit: STATE: it is there", SIX + "sit(0,0)=STATE sit(4,5)=STATE count(7)=0 sit(0,1)=0 sit(0,1)=STATE");
        say.hold("sit: BAD ahead of STATE: one ROOM alone", "house[n1,0,0,0;r0,0;]=1 sit(0,0)=STATE sit(0,1)=BAD sit(1,0)=BAD");
    }

    private static void room() {
        say.hold("room: a ROOM", SIX + "room(MIN,0)=BAD room(-1,0)=BAD room(0,0)=0 room(5,0)=0 room(6,0)=BAD room(MAX,0)=BAD");
        say.hold("room: 0 to 4", SIX + "room(5,MIN)=BAD room(5,-1)=BAD room(5,0)=0 room(5,1)=16 room(5,2)=0 room(5,3)=0 room(5,4)=3 room(5,5)=BAD room(5,MAX)=BAD");
        say.hold("room: 1 who is there (bits): none, all",
            "house[n2,0,0,0;r1,0;p1,0;t1,0;f1,0;i1,0;]=5 room(0,1)=0 room(1,1)=31 sit(0,0)=1 room(0,1)=1 room(1,1)=30 sit(4,0)=1 room(0,1)=17");
        say.hold("room: 4 DOORS (bits): none, all, open or not",
            "house[n3,0,0,0;" + "d0,1,1;d1,0,0;".repeat(4) + "]=0 room(0,4)=255 room(1,4)=255 room(2,4)=0 door(0,0)=84 room(0,4)=255");
        say.hold("room: STATE: no HOUSE (ahead of BAD)", "room(0,0)=STATE room(-1,0)=STATE room(6,0)=STATE room(0,5)=STATE room(0,-1)=STATE");
    }

    private static void doorHas() {
        say.hold("doorHas: a DOOR", SIX + "doorHas(MIN,0)=BAD doorHas(-1,0)=BAD doorHas(0,0)=0 doorHas(7,0)=0 doorHas(8,0)=BAD doorHas(MAX,0)=BAD");
        say.hold("doorHas: 0 to 2", SIX + "doorHas(1,MIN)=BAD doorHas(1,-1)=BAD doorHas(1,0)=5 doorHas(1,1)=1 doorHas(1,2)=0 doorHas(7,2)=1 doorHas(1,3)=BAD doorHas(1,MAX)=BAD");
        say.hold("doorHas: BAD: of none", "doorHas(0,0)=BAD doorHas(0,3)=BAD house[n2,0,0,0;r0,0;]=1 doorHas(0,0)=BAD");
    }

    private static void sitter() {
        say.hold("sitter: a sitter", SIX + "sitter(MIN,0)=BAD sitter(-1,0)=BAD sitter(0,0)=0 sitter(4,0)=5 sitter(5,0)=BAD sitter(MAX,0)=BAD");
        say.hold("sitter: 0 to 2", SIX + "sitter(4,MIN)=BAD sitter(4,-1)=BAD sitter(4,0)=5 sitter(4,1)=5 sitter(4,2)=0 sitter(4,3)=BAD sitter(4,MAX)=BAD hours(1) sitter(4,2)=1");
        say.hold("sitter: BAD: of none", "sitter(0,0)=BAD sitter(0,3)=BAD house[n2,0,0,0;d0,1,1;]=0 sitter(0,0)=BAD");
    }
}

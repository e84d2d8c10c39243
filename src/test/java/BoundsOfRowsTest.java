/** The sentences of 'Terms' on refusals and rows, and of promises 2 to 5 and 36, at their bounds. */
public final class BoundsOfRowsTest {
    private static final Sentences say = new Sentences("BoundsOfRowsTest");
    /** An hour lets 10 come into its one room, so came(row, i, 1) is 1 where item i is 10. */
    private static final String TEN = " house[n1,0,10,0;r0,0;]=1 ";

    public static void main(String[] args) {
        rows();
        lanes();
        items();
        findingsInTime();
        row();
        set();
        setNull();
        copyMoves();
        copyRefused();
        drop();
        status();
        statusStays();
        say.end();
    }

    private static void rows() {
        say.hold("1: ROWS 0 .. 7 are missing (at first)",
            "count(0)=0 drop(MIN)=BAD drop(-1)=BAD drop(0)=NULL drop(1)=NULL drop(2)=NULL drop(3)=NULL",
            "drop(4)=NULL drop(5)=NULL drop(6)=NULL drop(7)=NULL drop(8)=BAD drop(MAX)=BAD");
        say.hold("1: ROWS 0 .. 7, each",
            "row(-1,0,1)=BAD row(0,0,1)=1 row(1,0,2)=2 row(2,0,3)=3 row(3,0,4)=4 row(4,0,5)=5 row(5,0,6)=6",
            "row(6,0,7)=7 count(0)=7 row(7,0,8)=8 count(0)=8 row(8,0,9)=BAD count(0)=8",
            "drop(7)=8 drop(6)=7 drop(5)=6 drop(4)=5 drop(3)=4 drop(2)=3 drop(1)=2 drop(0)=1 count(0)=0");
    }

    private static void lanes() {
        say.hold("1: a LANE (0 bytes, 1 shorts, 2 ints)",
            "row(0,-1,1)=BAD row(0,0,1)=1 set(0,0,40000)=64 row(0,1,1)=1 set(0,0,40000)=-25536",
            "row(0,2,1)=1 set(0,0,40000)=40000 row(0,3,1)=BAD set(0,0,70000)=70000");
        say.hold("1: a LANE, of no items too",
            "row(0,0,0)=0 row(1,1,0)=0 row(2,2,0)=0 row(3,0,0)=0 row(4,1,0)=0 row(5,2,0)=0",
            "copy(0,0,3,0,0)=0 copy(1,0,4,0,0)=0 copy(2,0,5,0,0)=0",
            "copy(0,0,1,0,0)=STORE copy(1,0,2,0,0)=STORE copy(2,0,0,0,0)=STORE");
    }

    private static void items() {
        say.hold("1: 0 to 40 ITEMS",
            "row(0,0,-1)=SIZE count(0)=0 row(0,0,0)=0 count(0)=1 set(0,0,1)=PLACE row(0,0,1)=1 set(0,0,1)=1",
            "set(0,1,1)=PLACE row(0,0,39)=39 set(0,38,1)=1 set(0,39,1)=PLACE row(0,0,40)=40 set(0,39,1)=1",
            "set(0,40,1)=PLACE row(0,0,41)=BAD drop(0)=40");
        say.hold("1: ITEMS, 0 at first",
            "house[n1,0,0,0;]=0 row(7,2,40)=40 came(7,0,6)=1 came(7,6,6)=1 came(7,12,6)=1 came(7,18,6)=1",
            "came(7,24,6)=1 came(7,30,6)=1 came(7,34,6)=1");
        say.hold("1: ITEMS, 0 at first, where others were",
            "house[n1,0,0,0;]=0 row(7,2,40)=40 set(7,0,9)=9 set(7,20,9)=9 set(7,39,9)=9",
            "came(7,0,1)=0 came(7,20,1)=0 came(7,39,1)=0 row(7,2,40)=40 came(7,0,1)=1 came(7,20,1)=1 came(7,39,1)=1");
        say.hold("1: ITEMS, 0 at first, where a longer row was dropped",
            "house[n1,0,0,0;]=0 row(0,2,3)=3 set(0,2,9)=9 drop(0)=3 row(0,2,2)=2 row(0,2,3)=3 came(0,0,3)=1");
    }

    private static void findingsInTime() {
        say.hold("FINDINGS, of several the first in time: copy, NULL ahead of STORE ahead of PLACE",
            "row(0,0,2)=2 row(1,1,2)=2 row(2,0,1)=1",
            "copy(0,9,5,9,-1)=NULL copy(5,9,0,9,-1)=NULL copy(5,-1,6,-1,-1)=NULL",
            "copy(0,9,1,9,-1)=STORE copy(0,9,2,9,-1)=PLACE");
        say.hold("BAD ahead of FINDINGS: a ROW that is none",
            "copy(8,0,5,0,0)=BAD copy(5,0,8,0,0)=BAD copy(-1,-1,5,-1,-1)=BAD set(8,-1,0)=BAD drop(8)=BAD");
        say.hold("-1000010 less 1 NULL, 2 PLACE, 3 KIND, 4 SIZE, 5 STORE",
            TEN + "set(0,0,0)=-1000011 row(0,0,0)=0 set(0,0,0)=-1000012 as(0,2)=-1000013 row(0,0,-1)=-1000014",
            "row(1,1,0)=0 copy(0,0,1,0,0)=-1000015");
    }

    private static void row() {
        say.hold("row: in place of what is there: n",
            TEN + "row(0,2,4)=4 set(0,1,10)=10 came(0,1,1)=1 row(0,2,2)=2 came(0,1,1)=0 set(0,2,1)=PLACE",
            "row(0,0,3)=3 set(0,2,200)=-56 drop(0)=3");
        say.hold("row: BAD: ROW", "row(MIN,0,1)=BAD row(-1,0,1)=BAD row(0,0,1)=1 row(7,0,1)=1 row(8,0,1)=BAD row(MAX,0,1)=BAD");
        say.hold("row: BAD: LANE", "row(0,MIN,1)=BAD row(0,-1,1)=BAD row(0,0,1)=1 row(0,2,1)=1 row(0,3,1)=BAD row(0,MAX,1)=BAD");
        say.hold("row: BAD: n above 40", "row(0,0,40)=40 row(0,0,41)=BAD row(0,0,MAX)=BAD drop(0)=40");
        say.hold("row: SIZE, fewer than none", "row(0,0,0)=0 row(0,0,-1)=SIZE row(0,0,MIN)=SIZE drop(0)=0 row(0,1,-1)=SIZE");
        say.hold("row: BAD ahead of SIZE", "row(8,0,-1)=BAD row(-1,0,-1)=BAD row(0,3,-1)=BAD row(0,-1,-1)=BAD row(0,0,-1)=SIZE");
        say.hold("row: found, and the ROW there stays",
            TEN + "row(0,2,3)=3 set(0,0,10)=10 row(0,0,-1)=SIZE row(0,1,41)=BAD came(0,0,1)=1 drop(0)=3");
    }

    private static void set() {
        say.hold("set: its lowest bits, as many as the LANE has: bytes",
            "row(0,0,1)=1 set(0,0,-130)=126 set(0,0,-129)=127 set(0,0,-128)=-128 set(0,0,-127)=-127 set(0,0,-1)=-1",
            "set(0,0,0)=0 set(0,0,126)=126 set(0,0,127)=127 set(0,0,128)=-128 set(0,0,255)=-1 set(0,0,256)=0",
            "set(0,0,257)=1 set(0,0,MAX)=-1 set(0,0,MIN)=0");
        say.hold("set: its lowest bits, as many as the LANE has: shorts",
            "row(0,1,1)=1 set(0,0,-32769)=32767 set(0,0,-32768)=-32768 set(0,0,-1)=-1 set(0,0,255)=255 set(0,0,256)=256",
            "set(0,0,32767)=32767 set(0,0,32768)=-32768 set(0,0,65535)=-1 set(0,0,65536)=0 set(0,0,65537)=1",
            "set(0,0,MAX)=-1 set(0,0,MIN)=0");
        say.hold("set: its lowest bits, as many as the LANE has: ints",
            "row(0,2,1)=1 set(0,0,MIN)=-2147483648 set(0,0,-1)=-1 set(0,0,65536)=65536 set(0,0,MAX)=2147483647");
        say.hold("set: what it is then",
            TEN + "row(0,0,2)=2 set(0,0,266)=10 came(0,0,1)=1 came(0,1,1)=0 set(0,1,-246)=10 came(0,1,1)=1",
            "row(1,1,1)=1 set(1,0,65546)=10 came(1,0,1)=1");
        say.hold("set: BAD: ROW", "row(0,0,1)=1 row(7,0,1)=1 set(-1,0,5)=BAD set(0,0,5)=5 set(7,0,5)=5 set(8,0,5)=BAD set(MIN,0,5)=BAD set(MAX,0,5)=BAD");
        say.hold("set: PLACE",
            "row(0,0,3)=3 set(0,MIN,1)=PLACE set(0,-1,1)=PLACE set(0,0,1)=1 set(0,2,1)=1 set(0,3,1)=PLACE set(0,MAX,1)=PLACE",
            "row(1,0,0)=0 set(1,-1,1)=PLACE set(1,0,1)=PLACE");
        say.hold("set: one ITEM alone",
            TEN + "row(0,2,3)=3 row(1,2,3)=3 set(0,1,10)=10 came(0,0,1)=0 came(0,1,1)=1 came(0,2,1)=0 came(1,1,1)=0");
    }

    private static void setNull() {
        say.hold("set: NULL, ahead of PLACE", "set(3,0,1)=NULL set(3,-1,1)=NULL set(3,40,1)=NULL row(3,0,1)=1 set(3,0,1)=1 drop(3)=1 set(3,0,1)=NULL");
        say.hold("set: BAD ahead of NULL and PLACE", "set(8,0,1)=BAD set(-1,-1,1)=BAD");
    }

    private static void copyMoves() {
        say.hold("copy: as they were ahead: towards the end of the same ROW",
            TEN + "row(0,2,5)=5 set(0,0,10)=10 set(0,1,20)=20 set(0,2,30)=30 copy(0,0,0,1,3)=3",
            "came(0,0,2)=0 came(0,0,1)=1 came(0,1,3)=1 came(0,4,1)=0");
        say.hold("copy: as they were ahead: towards the front of the same ROW",
            TEN + "row(0,2,5)=5 set(0,2,10)=10 set(0,3,20)=20 set(0,4,30)=30 copy(0,2,0,1,3)=3 came(0,1,3)=1 came(0,0,1)=0");
        say.hold("copy: upon themselves", TEN + "row(0,2,3)=3 set(0,0,10)=10 set(0,1,20)=20 copy(0,0,0,0,3)=3 came(0,0,2)=1");
        say.hold("copy: from one to another, no more than n",
            TEN + "row(0,2,4)=4 row(1,2,4)=4 set(0,0,10)=10 set(0,1,20)=20 set(0,2,10)=10 copy(0,0,1,1,2)=2",
            "came(1,0,1)=0 came(1,1,2)=1 came(1,3,1)=0 came(0,0,2)=1");
        say.hold("copy: from one to another, the last ROW to the first",
            TEN + "row(0,2,2)=2 row(1,2,2)=2 row(7,2,2)=2 set(7,0,10)=10 set(7,1,20)=20 copy(7,0,0,0,2)=2 came(0,0,2)=1",
            "copy(1,0,7,0,1)=1 came(7,0,1)=0 came(0,0,2)=1 copy(0,0,7,0,1)=1 came(7,0,2)=1 came(1,0,1)=0");
        say.hold("copy: n ITEMS, all of 40",
            TEN + "row(0,1,40)=40 row(7,1,40)=40 set(0,0,10)=10 set(0,39,10)=10 copy(0,0,7,0,40)=40 came(7,0,1)=1",
            "came(7,39,1)=1 copy(0,0,7,0,41)=PLACE");
        say.hold("copy: no ITEM", TEN + "row(0,2,2)=2 row(1,2,0)=0 set(0,0,10)=10 copy(0,0,1,0,0)=0 copy(0,2,1,0,0)=0 copy(1,0,0,2,0)=0 came(0,0,1)=1");
    }

    private static void copyRefused() {
        say.hold("copy: BAD: ROWS",
            "row(0,0,1)=1 row(7,0,1)=1 copy(-1,0,0,0,1)=BAD copy(0,0,7,0,1)=1 copy(8,0,0,0,1)=BAD",
            "copy(0,0,-1,0,1)=BAD copy(7,0,0,0,1)=1 copy(0,0,8,0,1)=BAD copy(MIN,0,MAX,0,1)=BAD");
        say.hold("copy: NULL", "row(0,0,1)=1 copy(0,0,1,0,1)=NULL copy(1,0,0,0,1)=NULL copy(1,0,1,0,0)=NULL copy(0,0,0,0,1)=1");
        say.hold("copy: STORE", "row(0,0,1)=1 row(1,1,1)=1 row(2,2,1)=1 copy(0,0,1,0,1)=STORE copy(1,0,2,0,1)=STORE copy(2,0,0,0,0)=STORE copy(2,0,2,0,1)=1");
        say.hold("copy: PLACE: i below 0", "row(0,0,3)=3 row(1,0,3)=3 copy(0,0,1,0,1)=1 copy(0,-1,1,0,1)=PLACE copy(0,-1,1,0,0)=PLACE copy(0,MIN,1,0,1)=PLACE");
        say.hold("copy: PLACE: j below 0", "row(0,0,3)=3 row(1,0,3)=3 copy(0,0,1,-1,1)=PLACE copy(0,0,1,-1,0)=PLACE copy(0,0,1,MIN,1)=PLACE");
        say.hold("copy: PLACE: n below 0", "row(0,0,3)=3 row(1,0,3)=3 copy(0,0,1,0,0)=0 copy(0,0,1,0,-1)=PLACE copy(0,1,1,1,-1)=PLACE copy(0,0,1,0,MIN)=PLACE");
        say.hold("copy: PLACE: beyond the end of a",
            "row(0,0,3)=3 row(1,0,9)=9 copy(0,0,1,0,3)=3 copy(0,0,1,0,4)=PLACE copy(0,1,1,0,2)=2 copy(0,1,1,0,3)=PLACE",
            "copy(0,3,1,0,0)=0 copy(0,3,1,0,1)=PLACE copy(0,4,1,0,0)=PLACE copy(0,MAX,1,0,0)=PLACE copy(0,1,1,0,MAX)=PLACE",
            "copy(0,MAX,1,0,MAX)=PLACE");
        say.hold("copy: PLACE: beyond the end of b",
            "row(0,0,9)=9 row(1,0,3)=3 copy(0,0,1,0,3)=3 copy(0,0,1,0,4)=PLACE copy(0,0,1,1,2)=2 copy(0,0,1,1,3)=PLACE",
            "copy(0,0,1,3,0)=0 copy(0,0,1,3,1)=PLACE copy(0,0,1,4,0)=PLACE copy(0,0,1,MAX,0)=PLACE copy(0,0,1,MAX,1)=PLACE");
    }

    private static void drop() {
        say.hold("drop: missing from now on: how many ITEMS it had",
            "row(0,0,0)=0 row(1,1,1)=1 row(7,2,40)=40 drop(7)=40 count(0)=2 drop(7)=NULL drop(0)=0 drop(0)=NULL drop(1)=1 count(0)=0");
        say.hold("drop: BAD", "row(0,0,1)=1 drop(-1)=BAD drop(8)=BAD drop(MIN)=BAD drop(MAX)=BAD drop(0)=1");
        say.hold("drop: NULL", "row(0,0,1)=1 drop(1)=NULL drop(0)=1 drop(0)=NULL");
    }

    private static void status() {
        say.hold("status: 0: there was none", "status()=0 count(0)=0 row(9,0,0)=BAD status()=0 came(0,0,1)=STATE status()=0");
        say.hold("status: the number of its FINDING: row", "row(0,0,-1)=SIZE status()=4 row(0,0,0)=0 status()=0");
        say.hold("status: the number of its FINDING: set", "set(0,0,0)=NULL status()=1 row(0,0,1)=1 set(0,1,0)=PLACE status()=2 set(0,0,0)=0 status()=0");
        say.hold("status: the number of its FINDING: copy",
            "copy(0,0,0,0,0)=NULL status()=1 row(0,0,1)=1 row(1,1,1)=1 copy(0,0,1,0,0)=STORE status()=5",
            "copy(0,0,0,1,1)=PLACE status()=2 copy(0,0,0,0,1)=1 status()=0");
        say.hold("status: the number of its FINDING: drop", "drop(0)=NULL status()=1 row(0,0,1)=1 row(0,0,-1)=SIZE drop(0)=1 status()=0");
        say.hold("status: the number of its FINDING: came",
            TEN + "came(0,0,1)=NULL status()=1 row(0,0,1)=1 came(0,1,1)=PLACE status()=2 came(0,0,1)=0 status()=0");
        say.hold("status: the number of its FINDING: who",
            TEN + "who(0,0,0,1)=NULL status()=1 row(0,0,1)=1 who(0,0,1,1)=PLACE status()=2 who(0,0,0,1)=0 status()=0");
        say.hold("status: the number of its FINDING: as", TEN + "as(0,2)=KIND status()=3 as(0,1)=0 status()=0");
    }

    private static void statusStays() {
        say.hold("status: not BAD: calls with a ROW",
            TEN + "row(0,0,-1)=SIZE row(8,0,0)=BAD status()=4 set(8,0,0)=BAD status()=4 copy(8,0,0,0,0)=BAD status()=4",
            "drop(8)=BAD status()=4 came(8,0,1)=BAD status()=4 who(1,0,0,1)=BAD status()=4 as(0,6)=BAD status()=4");
        say.hold("status: not STATE", "row(0,0,-1)=SIZE came(0,0,1)=STATE status()=4 as(0,0)=BAD status()=4 who(0,0,0,1)=BAD status()=4");
        say.hold("status: calls without a ROW leave it",
            "set(0,0,0)=NULL" + TEN + "status()=1 hours(2)=20 status()=1 undo()=1 status()=1 image(0)=1 restore(0)=1 status()=1",
            "ask(0,0)=0 status()=1 trace(0)=11 kind(0)=1 count(0)=0 status()=1 feed(65)=1 house()=F0 fault()=1 status()=1",
            "door(0,1)=BAD sit(0,0)=STATE status()=1");
        say.hold("status: the calls that foretell leave it",
            "set(0,0,0)=NULL" + TEN + "ahead(1,0)=10 allAhead(1)=10 shivers(0)=1 moved(0,0,1,1,0)=0 sitWhere(0,0,1,1)=10",
            "led(0,1,0)=1 parted(0,0,0)=NONE coldest(0,0)=0 guest(0)=1 wind(0,0,0)=1 drawn(1,1,0)=10 status()=1");
    }
}

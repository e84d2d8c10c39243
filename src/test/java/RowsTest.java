/** Promises 2 to 5 and 36: rows, and the findings that calls with a row have. */
public final class RowsTest {
    private static final int BAD = ColdGuest.BAD, STATE = ColdGuest.STATE;
    private static final int NULL = -1000011, PLACE = -1000012, KIND = -1000013, SIZE = -1000014, STORE = -1000015;
    private static final Check check = new Check();

    public static void main(String[] args) {
        row();
        set();
        copy();
        copyWithin();
        rowsAreApart();
        drop();
        status();
        statusOfOtherCalls();
        check.end("RowsTest");
    }

    private static void row() {
        ColdGuest x = new ColdGuest();
        check.due("row of 40", x.row(0, 0, 40), 40);
        check.due("row of none", x.row(7, 2, 0), 0);
        check.due("rows", x.count(0), 2);
        check.due("row 8", x.row(8, 0, 1), BAD);
        check.due("row -1", x.row(-1, 0, 1), BAD);
        check.due("lane 3", x.row(1, 3, 1), BAD);
        check.due("lane -1", x.row(1, -1, 1), BAD);
        check.due("41 items", x.row(1, 0, 41), BAD);
        check.due("items beyond all", x.row(1, 0, Integer.MAX_VALUE), BAD);
        check.due("fewer than none", x.row(1, 0, -1), SIZE);
        check.due("fewest", x.row(1, 0, Integer.MIN_VALUE), SIZE);
        check.due("BAD ahead of SIZE, row", x.row(8, 0, -1), BAD);
        check.due("BAD ahead of SIZE, lane", x.row(1, 3, -1), BAD);
        check.due("rows still", x.count(0), 2);
        x.set(0, 5, 9);
        check.due("found: the row stays", x.row(0, 1, -1), SIZE);
        x.row(1, 0, 1);
        x.copy(0, 5, 1, 0, 1);
        check.due("a row in place of another", x.row(0, 0, 6), 6);
        check.due("items are 0 at first", x.copy(0, 5, 1, 0, 1), 1);
        check.due("shorter: no place", x.set(0, 6, 1), PLACE);
        zeroAtFirst();
    }

    /** Items are seen by came(): a house of one room without parts has 0 for ever. */
    private static void zeroAtFirst() {
        ColdGuest x = Check.with("n1,0,0,0;");
        Check.lay(x, 0, 7, 7, 7);
        check.due("as laid", x.came(0, 0, 1), 0);
        x.row(0, 2, 3);
        check.due("0 at first", x.came(0, 0, 3), 1);
        Check.lay(x, 1, 7);
        x.copy(1, 0, 0, 0, 1);
        check.due("copied", x.came(0, 0, 1), 0);
        check.due("the others as they were", x.came(0, 1, 2), 1);
    }

    private static void set() {
        ColdGuest x = new ColdGuest();
        check.due("missing", x.set(0, 0, 1), NULL);
        check.due("missing, ahead of place", x.set(0, -1, 1), NULL);
        check.due("row 8", x.set(8, 0, 1), BAD);
        check.due("row -1", x.set(-1, 0, 1), BAD);
        x.row(0, 0, 2);
        x.row(1, 1, 2);
        x.row(2, 2, 2);
        check.due("byte 127", x.set(0, 0, 127), 127);
        check.due("byte 128", x.set(0, 0, 128), -128);
        check.due("byte 255", x.set(0, 1, 255), -1);
        check.due("byte 256", x.set(0, 1, 256), 0);
        check.due("byte -129", x.set(0, 1, -129), 127);
        check.due("short 32767", x.set(1, 0, 32767), 32767);
        check.due("short 32768", x.set(1, 0, 32768), -32768);
        check.due("short 65536", x.set(1, 1, 65536), 0);
        check.due("int most", x.set(2, 0, Integer.MAX_VALUE), Integer.MAX_VALUE);
        check.due("int least", x.set(2, 1, Integer.MIN_VALUE), Integer.MIN_VALUE);
        check.due("place 2 of 2", x.set(0, 2, 1), PLACE);
        check.due("place -1", x.set(0, -1, 1), PLACE);
        check.due("place beyond all", x.set(0, Integer.MAX_VALUE, 1), PLACE);
        x.row(3, 0, 0);
        check.due("place 0 of none", x.set(3, 0, 1), PLACE);
    }

    private static void copy() {
        ColdGuest x = new ColdGuest();
        x.row(0, 1, 4);
        x.row(1, 1, 3);
        x.row(2, 2, 3);
        check.due("row 8", x.copy(8, 0, 0, 0, 1), BAD);
        check.due("row -1", x.copy(0, 0, -1, 0, 1), BAD);
        check.due("BAD ahead of NULL", x.copy(5, 0, 8, 0, 1), BAD);
        check.due("from a missing one", x.copy(5, 0, 0, 0, 1), NULL);
        check.due("to a missing one", x.copy(0, 0, 5, 0, 1), NULL);
        check.due("NULL ahead of PLACE", x.copy(0, -1, 5, 0, 1), NULL);
        check.due("two lanes", x.copy(0, 0, 2, 0, 1), STORE);
        check.due("two lanes, of none", x.copy(0, 0, 2, 0, 0), STORE);
        check.due("STORE ahead of PLACE", x.copy(0, 9, 2, 0, 1), STORE);
        check.due("i below 0", x.copy(0, -1, 1, 0, 1), PLACE);
        check.due("j below 0", x.copy(0, 0, 1, -1, 1), PLACE);
        check.due("n below 0", x.copy(0, 0, 1, 0, -1), PLACE);
        check.due("beyond the end of a", x.copy(1, 1, 0, 0, 3), PLACE);
        check.due("beyond the end of b", x.copy(0, 0, 1, 1, 3), PLACE);
        check.due("up to both ends", x.copy(0, 1, 1, 0, 3), 3);
        check.due("none at the ends", x.copy(0, 4, 1, 3, 0), 0);
        check.due("none beyond an end", x.copy(0, 5, 1, 0, 0), PLACE);
        check.due("i and n that wrap", x.copy(0, Integer.MAX_VALUE, 1, 0, Integer.MAX_VALUE), PLACE);
        check.due("n that wraps", x.copy(0, 1, 1, 0, Integer.MAX_VALUE), PLACE);
    }

    /** 10 parts an hour into one room: 10, 20, 30 ... tell what a row has. */
    private static void copyWithin() {
        ColdGuest x = Check.with("n1,0,10,0;");
        Check.lay(x, 0, 0, 10, 20, 30);
        check.due("towards the front", x.copy(0, 1, 0, 0, 3), 3);
        check.due("10 20 30 30", x.came(0, 0, 3), 1);
        Check.lay(x, 0, 10, 20, 30, 0);
        check.due("towards the end", x.copy(0, 0, 0, 1, 3), 3);
        check.due("10 10 20 30", x.came(0, 1, 3), 1);
        check.due("10 10 20 30, from 0", x.came(0, 0, 2), 0);
    }

    /** Each row is told by what came() sees of it; whatever is done to one, the others stay. */
    private static void rowsAreApart() {
        ColdGuest x = Check.with("n1,0,10,0;");
        for (int r = 0; r < 8; r++) {
            check.due("row " + r, x.row(r, 2, 40), 40);
        }
        for (int r = 0; r < 8; r++) {
            x.set(r, 0, 10);
            x.set(r, 39, 10);
        }
        check.due("laid anew", x.row(3, 2, 40), 40);
        for (int r = 0; r < 8; r++) {
            check.due("first item of row " + r, x.came(r, 0, 1), r == 3 ? 0 : 1);
            check.due("last item of row " + r, x.came(r, 39, 1), r == 3 ? 0 : 1);
        }
        check.due("from 5 to 3", x.copy(5, 0, 3, 38, 1), 1);
        check.due("it came", x.came(3, 38, 1), 1);
        check.due("alone", x.came(3, 0, 1), 0);
        check.due("from 3 to 6", x.copy(3, 0, 6, 0, 38), 38);
        check.due("the first is 0", x.came(6, 0, 1), 0);
        check.due("the last is not", x.came(6, 39, 1), 1);
        check.due("row 7 stays", x.came(7, 0, 1), 1);
        check.due("row 5 stays", x.came(5, 0, 1), 1);
    }

    private static void drop() {
        ColdGuest x = new ColdGuest();
        check.due("row 8", x.drop(8), BAD);
        check.due("row -1", x.drop(-1), BAD);
        check.due("missing", x.drop(3), NULL);
        x.row(3, 1, 17);
        check.due("17 items", x.drop(3), 17);
        check.due("rows", x.count(0), 0);
        check.due("missing again", x.drop(3), NULL);
        check.due("set a dropped one", x.set(3, 0, 0), NULL);
        x.row(3, 1, 0);
        check.due("of none", x.drop(3), 0);
    }

    private static void status() {
        ColdGuest x = new ColdGuest();
        check.due("at first", x.status(), 0);
        x.row(0, 0, -1);
        check.due("SIZE", x.status(), 4);
        x.row(0, 0, 41);
        check.due("BAD leaves it", x.status(), 4);
        x.set(0, 0, 0);
        check.due("NULL by set", x.status(), 1);
        x.row(0, 0, 1);
        check.due("row is fine", x.status(), 0);
        x.set(0, 1, 0);
        check.due("PLACE by set", x.status(), 2);
        x.set(0, 0, 0);
        check.due("set is fine", x.status(), 0);
        x.row(1, 1, 1);
        x.copy(0, 0, 1, 0, 1);
        check.due("STORE by copy", x.status(), 5);
        x.copy(0, 0, 0, 0, 1);
        check.due("copy is fine", x.status(), 0);
        x.copy(0, 2, 0, 0, 0);
        check.due("PLACE by copy", x.status(), 2);
        x.drop(1);
        check.due("drop is fine", x.status(), 0);
        x.drop(1);
        check.due("NULL by drop", x.status(), 1);
        x.drop(9);
        x.set(9, 0, 0);
        x.copy(9, 0, 0, 0, 0);
        check.due("BAD leaves it, all of them", x.status(), 1);
    }

    private static void statusOfOtherCalls() {
        ColdGuest x = new ColdGuest();
        x.row(0, 0, -1);
        check.due("came without a house", x.came(0, 0, 1), STATE);
        check.due("STATE leaves it", x.status(), 4);
        Check.tell(x, "n1,0,0,0;r0,0;");
        check.due("a house leaves it", x.status(), 4);
        check.due("came of a missing row", x.came(0, 0, 1), NULL);
        check.due("NULL by came", x.status(), 1);
        x.row(0, 0, 1);
        check.due("came beyond the end", x.came(0, 0, 2), PLACE);
        check.due("PLACE by came", x.status(), 2);
        x.came(0, 0, 1);
        check.due("came is fine", x.status(), 0);
        x.who(0, 0, 1, 1);
        check.due("PLACE by who", x.status(), 2);
        x.who(0, 0, 0, 1);
        check.due("who is fine", x.status(), 0);
        x.who(0, 1, 0, 1);
        check.due("NULL by who", x.status(), 1);
        check.due("a reader is no fire", x.as(0, 4), KIND);
        check.due("KIND by as", x.status(), 3);
        x.as(0, 6);
        x.came(0, 0, 7);
        x.who(1, 0, 0, 1);
        x.hours(25);
        x.undo();
        x.kind(0);
        x.ask(0, 0);
        x.house();
        check.due("others leave it", x.status(), 3);
        x.as(0, 0);
        check.due("as is fine", x.status(), 0);
    }
}

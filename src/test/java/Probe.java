import java.util.ArrayList;
import java.util.List;

/**
 * All that calls can tell of an object, as rows "call = answer". The calls use the object up: acts are undone,
 * the tape is read, images are restored, rows are dropped, as there is no other way to see them.
 */
final class Probe {
    static final int STATUS_AT = 0, FAULT_AT = 1;

    private final ColdGuest guest;
    private final List<String> seen = new ArrayList<>();
    private int calls = 0;

    private Probe(ColdGuest guest) {
        this.guest = guest;
    }

    static Probe of(ColdGuest guest) {
        Probe probe = new Probe(guest);
        probe.see("status");
        probe.see("fault");
        probe.seeTrace();
        probe.seeHouse();
        probe.seeAhead();
        probe.seeActs();
        probe.seeTape();
        probe.seeImage(0);
        probe.seeImage(1);
        probe.seeRows();
        return probe;
    }

    int calls() {
        return calls;
    }

    String at(int i) {
        return i < seen.size() ? seen.get(i) : "nothing";
    }

    int length() {
        return seen.size();
    }

    private long see(String name, int... a) {
        long answer = quiet(name, a);
        StringBuilder call = new StringBuilder(name);
        for (int v : a) {
            call.append(' ').append(v);
        }
        seen.add(call + " = " + answer);
        return answer;
    }

    private long quiet(String name, int... a) {
        calls++;
        return Calls.of(guest, name, a);
    }

    private void seeTrace() {
        for (int i = 0; i < 7; i++) {
            see("trace", i);
        }
    }

    private void seeCounts(int from, int to) {
        for (int what = from; what <= to; what++) {
            see("count", what);
        }
    }

    private void seeHouse() {
        seeCounts(0, 8);
        long rooms = quiet("count", 1);
        long doors = quiet("count", 2);
        long sitters = quiet("count", 3);
        for (int r = 0; r < rooms; r++) {
            for (int what = 0; what <= 4; what++) {
                see("room", r, what);
            }
        }
        for (int d = 0; d < doors; d++) {
            for (int what = 0; what <= 2; what++) {
                see("doorHas", d, what);
            }
        }
        for (int s = 0; s < sitters; s++) {
            see("kind", s);
            for (int what = 0; what <= 2; what++) {
                see("sitter", s, what);
            }
        }
    }

    private void seeAhead() {
        for (int r = 0; r < 6; r++) {
            see("ahead", 1, r);
        }
        see("shivers", 0);
        see("shivers", 1);
        see("drawn", 9, 77, 0);
    }

    private void seeActs() {
        for (int act = 0; act <= 25 && see("undo") >= 0; act++) {
            seeCounts(4, 6);
            see("sitter", 0, 0);
        }
    }

    private void seeTape() {
        see("house");
        see("fault");
        seeCounts(1, 6);
        see("allAhead", 3);
        see("sitter", 0, 1);
    }

    private void seeImage(int k) {
        if (see("restore", k) >= 0) {
            seeCounts(1, 6);
            see("allAhead", 2);
            see("ahead", 2, 0);
            see("kind", 0);
            see("sitter", 0, 0);
        }
    }

    /** Items are seen by a house into which 10 parts come: an item is 10, or another number. */
    private void seeRows() {
        for (char letter : "n1,0,10,0;".toCharArray()) {
            quiet("feed", letter);
        }
        quiet("house");
        for (int r = 0; r < 8; r++) {
            boolean there = see("came", r, 0, 1) != -1000011;
            for (int i = 1; there && i < 5; i++) {
                see("came", r, i, 1);
            }
            if (there) {
                see("came", r, 39, 1);
                see("set", r, 0, 40000);
                seeLane(r);
                see("drop", r);
            }
        }
    }

    /** A row without items shows its lane only by what can be copied to it; those ahead of it are dropped by now. */
    private void seeLane(int r) {
        int other = r == 0 ? 7 : r - 1;
        if (r == 0 && quiet("copy", 7, 0, 7, 0, 0) == 0) {
            see("copy", 0, 0, 7, 0, 0);
            return;
        }
        for (int lane = 0; lane < 2; lane++) {
            quiet("row", other, lane, 0);
            see("copy", r, 0, other, 0, 0);
        }
        quiet("drop", other);
    }
}

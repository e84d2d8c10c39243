import java.util.Arrays;
import java.util.Random;

/** Runs of calls by a fixed seed, right and wrong ones, held against the model call by call. */
public final class RandomRunsTest {
    private static final int RUNS = 1500;
    private static final int CALLS = 512;
    private static final int[] EDGES = {-1, 0, 1, 2, 5, 6, 7, 8, 24, 25, 40, 41, 60, 61, 999, 1000, 999999, 1000000,
        Integer.MAX_VALUE, Integer.MIN_VALUE};
    private static final Check check = new Check();

    private final Random random;
    private final ColdGuest guest = new ColdGuest();
    private final Model model = new Model();
    private final String run;
    private int calls = 0;

    private RandomRunsTest(int seed) {
        random = new Random(seed);
        run = "run " + seed;
    }

    public static void main(String[] args) {
        for (int seed = 0; seed < RUNS; seed++) {
            RandomRunsTest test = new RandomRunsTest(seed);
            while (test.calls < CALLS) {
                test.step();
            }
        }
        check.end("RandomRunsTest");
    }

    private long call(String name, int... a) {
        calls++;
        long want = model.call(name, a);
        check.due(run + ", call " + calls + ": " + name + Arrays.toString(a), Calls.of(guest, name, a), want);
        return want;
    }

    private int pick(int bound) {
        return random.nextInt(bound);
    }

    /** Mostly a number from least to most, now and then one at or beyond an edge. */
    private int number(int least, int most) {
        if (pick(25) == 0) {
            return EDGES[pick(EDGES.length)];
        }
        return least + pick(most - least + 1);
    }

    private int rooms() {
        return model.house() == null ? 6 : model.house().rooms();
    }

    private int doors() {
        return model.house() == null ? 1 : Math.max(1, model.house().doors().size());
    }

    private int sitters() {
        return model.house() == null ? 1 : Math.max(1, model.house().kinds().size());
    }

    private int aRoom() {
        return number(0, rooms() - 1);
    }

    private int aSitter() {
        return number(0, sitters() - 1);
    }

    private int what() {
        return number(0, 1);
    }

    private void step() {
        int which = pick(model.house() == null ? 6 : 40);
        switch (which) {
            case 0: rowCalls(); break;
            case 1: if (pick(model.house() == null ? 1 : 6) == 0) tellHouse(); break;
            case 2: rowCalls(); break;
            case 3: refusals(); break;
            case 4: images(); break;
            case 5: seeAll(); break;
            case 6: case 7: case 8: call("hours", pick(4) == 0 ? number(1, 24) : number(1, 3)); break;
            case 9: case 10: call("door", number(0, doors() - 1), number(0, 1)); break;
            case 11: case 12: call("sit", aSitter(), aRoom()); break;
            case 13: call("undo"); break;
            case 14: case 15: case 16: told(); break;
            case 17: case 18: asks(); break;
            default: foretold(); break;
        }
    }

    private void rowCalls() {
        switch (pick(7)) {
            case 0: call("row", number(0, 7), number(0, 2), number(-1, 40)); break;
            case 1: case 2: call("set", number(0, 7), number(-1, 12), random.nextInt() >> pick(32)); break;
            case 3: call("copy", number(0, 3), number(-1, 9), number(0, 3), number(-1, 9), number(-1, 9)); break;
            case 4: call("drop", number(0, 7)); break;
            case 5: call("row", pick(3), 1, number(0, 40)); break;
            default: call("copy", pick(3), pick(9), pick(3), pick(9), pick(9)); break;
        }
        call("status");
    }

    private void tellHouse() {
        String text = pick(4) == 0 ? spoilt(aHouse()) : aHouse();
        for (int i = 0; i < text.length(); i++) {
            call("feed", text.charAt(i));
        }
        if (pick(20) == 0) {
            call("feed", number(0, 255));
        }
        call("house");
        call("fault");
    }

    private String aHouse() {
        int rooms = 1 + pick(6);
        StringBuilder text = new StringBuilder();
        text.append('n').append(rooms).append(',').append(pick(rooms)).append(',');
        text.append(pick(41)).append(',').append(pick(3) == 0 ? pick(10) : pick(100)).append(';');
        int doors = rooms == 1 ? 0 : pick(9);
        for (int d = 0; d < doors; d++) {
            int a = pick(rooms);
            int b = (a + 1 + pick(rooms - 1)) % rooms;
            text.append('d').append(a).append(',').append(b).append(',').append(pick(3) == 0 ? 0 : 1).append(';');
        }
        int sitters = pick(6);
        for (int s = 0; s < sitters; s++) {
            text.append("rptfi".charAt(pick(5))).append(pick(rooms)).append(',').append(pick(21)).append(';');
        }
        return text.toString();
    }

    private String spoilt(String text) {
        StringBuilder other = new StringBuilder(text);
        int at = pick(text.length());
        switch (pick(6)) {
            case 0: other.setCharAt(at, (char) pick(256)); break;
            case 1: other.insert(at, "n,;d0123456789rptfi x".charAt(pick(21))); break;
            case 2: other.deleteCharAt(at); break;
            case 3: other.setLength(at); break;
            case 4: other.append("d0,1,1;"); break;
            default: other.append("r0,0;r0,0;r0,0;"); break;
        }
        return other.toString();
    }

    private void refusals() {
        String[] names = {"ahead", "moved", "came", "who", "sitWhere", "led", "parted", "coldest", "wind", "drawn",
            "image", "restore", "as", "ask", "door", "sit", "row", "set", "copy", "room", "doorHas", "sitter", "hours",
            "count", "trace", "kind", "guest", "shivers", "allAhead", "feed"};
        int[] a = new int[5];
        for (int i = 0; i < a.length; i++) {
            a[i] = EDGES[pick(EDGES.length)];
        }
        call(names[pick(names.length)], a);
        call("status");
    }

    private void images() {
        call(pick(2) == 0 ? "image" : "restore", pick(10) == 0 ? number(-1, 2) : pick(2));
    }

    private void seeAll() {
        for (int what = 0; what <= 8; what++) {
            call("count", what);
        }
        int room = aRoom();
        for (int what = 0; what <= 4; what++) {
            call("room", room, what);
        }
        int door = number(0, doors() - 1);
        int sitter = aSitter();
        for (int what = 0; what <= 2; what++) {
            call("doorHas", door, what);
            call("sitter", sitter, what);
        }
    }

    private void asks() {
        int one = aSitter();
        call("kind", one);
        call("as", one, number(0, 5));
        call("status");
        call("ask", one, what());
        for (int i = 0; i < 7; i++) {
            call("trace", i);
        }
        call("trace", number(-1, 16));
    }

    /** A row that tells how cold it becomes, by this house or one like it, so that came and who find some. */
    private void told() {
        if (model.house() == null) {
            return;
        }
        Model.House like = model.house();
        int sitter = pick(sitters());
        if (pick(2) == 0) {
            like = like.withIn(pick(rooms()));
        } else if (!like.kinds().isEmpty()) {
            like = like.withKind(sitter, 1 + pick(5));
        }
        int n = 1 + pick(Math.min(6, 38 / rooms()));
        int i = pick(3);
        int row = pick(8);
        call("row", row, 1 + pick(2), i + n * rooms());
        for (int h = 1; h <= n; h++) {
            for (int r = 0; r < rooms(); r++) {
                call("set", row, i + (h - 1) * rooms() + r, like.later(h).cold().get(r));
            }
        }
        call("came", row, i, n);
        call("who", sitter, row, i, n);
        call("came", number(0, 7), number(-1, 3), number(1, 6));
        call("who", aSitter(), number(0, 7), number(-1, 3), number(1, 6));
        call("status");
    }

    private int aCold() {
        return pick(3) == 0 ? number(1, 999) : number(1, 99);
    }

    private void foretold() {
        switch (pick(11)) {
            case 0: call("ahead", number(0, 60), aRoom()); break;
            case 1: call("allAhead", number(0, 60)); break;
            case 2: call("shivers", what()); break;
            case 3: moves(); break;
            case 4: both("sitWhere", aSitter(), aRoom(), number(1, 24)); break;
            case 5: both("led", aRoom(), aCold()); break;
            case 6: both("parted", aRoom(), aRoom()); break;
            case 7: both("coldest", number(0, 60)); break;
            case 8: call("guest", aRoom()); break;
            case 9: both("wind", aRoom(), number(0, 10)); break;
            default: both("drawn", number(0, 60), number(1, 999999)); break;
        }
    }

    private void moves() {
        int cold = pick(1 << rooms());
        int warm = pick(1 << rooms()) & (pick(9) == 0 ? -1 : ~cold);
        both("moved", pick(9) == 0 ? number(0, 63) : cold, warm, aCold(), pick(3) == 0 ? number(1, 24) : number(1, 5));
    }

    private void both(String name, int... a) {
        int[] more = Arrays.copyOf(a, a.length + 1);
        call(name, more);
        more[a.length] = pick(12) == 0 ? number(-1, 2) : 1;
        call(name, more);
    }
}

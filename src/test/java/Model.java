import java.math.BigInteger;
import java.util.ArrayDeque;
import java.util.ArrayList;
import java.util.Arrays;
import java.util.Deque;
import java.util.List;
import java.util.function.Predicate;
import java.util.regex.Matcher;
import java.util.regex.Pattern;

/** The document told once more, with the whole library and without thrift, to hold ColdGuest against. */
final class Model {
    static final int NONE = -1000000, BAD = -1000001, STATE = -1000002, FULL = -1000003;
    private static final String SORTS = "?rptfi";
    private static final int[] PARENT = {-1, 0, 1, 1, 0, 4};

    record Door(int a, int b) { }

    /** A house that never changes: each change makes another. */
    record House(int rooms, int in, int parts, int limit, List<Door> doors, List<Boolean> open,
                 List<Integer> kinds, List<Integer> places, List<Integer> forces, List<Integer> cold, int hour) {

        House withOpen(List<Boolean> other) {
            return new House(rooms, in, parts, limit, doors, List.copyOf(other), kinds, places, forces, cold, hour);
        }

        House withMoved(int bits) {
            List<Boolean> other = new ArrayList<>(open);
            for (int d = 0; d < doors.size(); d++) {
                other.set(d, open.get(d) ^ (bits & 1 << d) != 0);
            }
            return withOpen(other);
        }

        House withIn(int other) {
            return new House(rooms, other, parts, limit, doors, open, kinds, places, forces, cold, hour);
        }

        House withKind(int sitter, int kind) {
            return new House(rooms, in, parts, limit, doors, open, replaced(kinds, sitter, kind), places, forces, cold, hour);
        }

        House withPlace(int sitter, int room) {
            return new House(rooms, in, parts, limit, doors, open, kinds, replaced(places, sitter, room), forces, cold, hour);
        }

        boolean anybody(int room, int... of) {
            for (int s = 0; s < kinds.size(); s++) {
                int kind = kinds.get(s);
                if (places.get(s) == room && Arrays.stream(of).anyMatch(k -> k == kind)) {
                    return true;
                }
            }
            return false;
        }

        House later() {
            int[] c = cold.stream().mapToInt(Integer::intValue).toArray();
            c[in] = Math.min(999, c[in] + parts);
            for (int d = 0; d < doors.size(); d++) {
                int a = doors.get(d).a();
                int b = doors.get(d).b();
                if (!open.get(d) || c[a] == c[b]) {
                    continue;
                }
                int from = c[a] > c[b] ? a : b;
                int to = a + b - from;
                int goes = (c[from] - c[to]) / 4;
                if (anybody(from, 1, 2, 3)) {
                    goes = goes / 2;
                }
                if (anybody(from, 2)) {
                    goes = 0;
                }
                c[from] -= goes;
                c[to] += goes;
            }
            for (int s = 0; s < kinds.size(); s++) {
                int f = forces.get(s);
                int more = new int[] {0, 0, 0, -f, -2 * f, f}[kinds.get(s)];
                c[places.get(s)] = Math.min(999, Math.max(0, c[places.get(s)] + more));
            }
            List<Integer> then = Arrays.stream(c).boxed().toList();
            return new House(rooms, in, parts, limit, doors, open, kinds, places, forces, then, hour + 1);
        }

        House later(int n) {
            House h = this;
            for (int i = 0; i < n; i++) {
                h = h.later();
            }
            return h;
        }

        int all() {
            return cold.stream().mapToInt(Integer::intValue).sum();
        }

        int openBits() {
            int bits = 0;
            for (int d = 0; d < open.size(); d++) {
                bits += open.get(d) ? 1 << d : 0;
            }
            return bits;
        }

        boolean shivers(int sitter) {
            return cold.get(places.get(sitter)) > limit;
        }

        int shivering() {
            for (int s = 0; s < kinds.size(); s++) {
                if (shivers(s)) {
                    return s;
                }
            }
            return -1;
        }

        int reach(int room, int seen) {
            int bits = seen | 1 << room;
            for (int d = 0; d < doors.size(); d++) {
                Door door = doors.get(d);
                if (open.get(d) && door.a() == room && (bits & 1 << door.b()) == 0) {
                    bits = reach(door.b(), bits);
                }
                if (open.get(d) && door.b() == room && (bits & 1 << door.a()) == 0) {
                    bits = reach(door.a(), bits);
                }
            }
            return bits;
        }

        private static List<Integer> replaced(List<Integer> list, int i, int v) {
            List<Integer> other = new ArrayList<>(list);
            other.set(i, v);
            return List.copyOf(other);
        }
    }

    private final int[][] rows = new int[8][];
    private final int[] lanes = new int[8];
    private final StringBuilder tape = new StringBuilder();
    private House house = null;
    private final Deque<House> past = new ArrayDeque<>();
    private final House[] images = new House[2];
    private List<Integer> trace = new ArrayList<>();
    private int fault = 0;
    private int status = 0;

    House house() {
        return house;
    }

    long call(String name, int... a) {
        return switch (name) {
            case "row" -> row(a[0], a[1], a[2]);
            case "set" -> set(a[0], a[1], a[2]);
            case "copy" -> copy(a[0], a[1], a[2], a[3], a[4]);
            case "drop" -> drop(a[0]);
            case "feed" -> feed(a[0]);
            case "house" -> read();
            case "fault" -> fault;
            case "undo" -> undo();
            case "hours" -> hours(a[0]);
            case "door" -> door(a[0], a[1]);
            case "sit" -> sit(a[0], a[1]);
            case "room" -> room(a[0], a[1]);
            case "doorHas" -> doorHas(a[0], a[1]);
            case "sitter" -> sitter(a[0], a[1]);
            case "image" -> image(a[0]);
            case "restore" -> restore(a[0]);
            case "kind" -> noSitter(a[0]) ? BAD : house.kinds.get(a[0]);
            case "as" -> as(a[0], a[1]);
            case "ask" -> ask(a[0], a[1]);
            case "trace" -> a[0] < 0 || a[0] >= trace.size() ? NONE : trace.get(a[0]);
            case "count" -> count(a[0]);
            case "status" -> status;
            default -> foretold(name, a);
        };
    }

    private long foretold(String name, int[] a) {
        if (name.equals("sitWhere")) {
            return sitWhere(a[0], a[1], a[2], a[3]);
        }
        if (name.equals("who")) {
            return who(a[0], a[1], a[2], a[3]);
        }
        if (house == null) {
            return STATE;
        }
        return switch (name) {
            case "ahead" -> out(a[0], 0, 60) || noRoom(a[1]) ? BAD : house.later(a[0]).cold.get(a[1]);
            case "allAhead" -> out(a[0], 0, 60) ? BAD : house.later(a[0]).all();
            case "shivers" -> shivers(a[0]);
            case "moved" -> moved(a[0], a[1], a[2], a[3], a[4]);
            case "led" -> led(a[0], a[1], a[2]);
            case "came" -> came(a[0], a[1], a[2]);
            case "parted" -> parted(a[0], a[1], a[2]);
            case "coldest" -> coldest(a[0], a[1]);
            case "guest" -> noRoom(a[0]) ? BAD : house.reach(a[0], 0);
            case "wind" -> wind(a[0], a[1], a[2]);
            case "drawn" -> drawn(a[0], a[1], a[2]);
            default -> throw new IllegalArgumentException(name);
        };
    }

    private static boolean out(int v, int least, int most) {
        return v < least || v > most;
    }

    private boolean noRoom(int r) {
        return house == null || out(r, 0, house.rooms - 1);
    }

    private boolean noDoor(int d) {
        return house == null || out(d, 0, house.doors.size() - 1);
    }

    private boolean noSitter(int s) {
        return house == null || out(s, 0, house.kinds.size() - 1);
    }

    private int found(int number) {
        status = number;
        return number == 0 ? 0 : -1000010 - number;
    }

    private int row(int row, int lane, int n) {
        if (out(row, 0, 7) || out(lane, 0, 2) || n > 40) {
            return BAD;
        }
        if (n < 0) {
            return found(4);
        }
        rows[row] = new int[n];
        lanes[row] = lane;
        return found(0) + n;
    }

    private int set(int row, int i, int v) {
        if (out(row, 0, 7)) {
            return BAD;
        }
        if (rows[row] == null) {
            return found(1);
        }
        if (out(i, 0, rows[row].length - 1)) {
            return found(2);
        }
        int unused = 32 - new int[] {8, 16, 32}[lanes[row]];
        rows[row][i] = v << unused >> unused;
        found(0);
        return rows[row][i];
    }

    private static boolean outside(int[] row, int i, int n) {
        return i < 0 || n < 0 || (long) i + n > row.length;
    }

    private int copy(int a, int i, int b, int j, int n) {
        if (out(a, 0, 7) || out(b, 0, 7)) {
            return BAD;
        }
        if (rows[a] == null || rows[b] == null) {
            return found(1);
        }
        if (lanes[a] != lanes[b]) {
            return found(5);
        }
        if (outside(rows[a], i, n) || outside(rows[b], j, n)) {
            return found(2);
        }
        int[] before = rows[a].clone();
        for (int k = 0; k < n; k++) {
            rows[b][j + k] = before[i + k];
        }
        return found(0) + n;
    }

    private int drop(int row) {
        if (out(row, 0, 7)) {
            return BAD;
        }
        if (rows[row] == null) {
            return found(1);
        }
        int had = rows[row].length;
        rows[row] = null;
        return found(0) + had;
    }

    private int feed(int letter) {
        if (out(letter, 0, 255)) {
            return BAD;
        }
        if (tape.length() == 120) {
            return FULL;
        }
        tape.append((char) letter);
        return tape.length();
    }

    /** A token: its text ("" at the end, null for what is none) and its place. */
    private record Token(String text, int place) {
        boolean number() {
            return text != null && !text.isEmpty() && Character.isDigit(text.charAt(0));
        }

        int value() {
            return Integer.parseInt(text);
        }

        boolean is(String other) {
            return other.equals(text);
        }
    }

    private static List<Token> tokens(String text) {
        List<Token> all = new ArrayList<>();
        Matcher m = Pattern.compile("[a-z]|[0-9]+|[,;]|(?s:.)").matcher(text);
        while (m.find()) {
            boolean sound = m.group().matches("[a-z,;]|[0-9]{1,2}");
            all.add(new Token(sound ? m.group() : null, m.start()));
        }
        all.add(new Token("", text.length()));
        return all;
    }

    /** What a text breaks off at. */
    private static final class Fault extends Exception {
        private static final long serialVersionUID = 1L;
        final int number;
        final int place;

        Fault(int number, Token token) {
            this.number = number;
            this.place = token.place;
        }
    }

    private static Token sign(Deque<Token> left, String sign) throws Fault {
        Token token = left.removeFirst();
        if (!token.is(sign)) {
            throw new Fault(1, token);
        }
        return token;
    }

    private static int number(Deque<Token> left, Predicate<Integer> told) throws Fault {
        Token token = left.removeFirst();
        if (!token.number()) {
            throw new Fault(1, token);
        }
        if (!told.test(token.value())) {
            throw new Fault(2, token);
        }
        return token.value();
    }

    private static House parse(String text) throws Fault {
        Deque<Token> left = new ArrayDeque<>(tokens(text));
        sign(left, "n");
        int rooms = number(left, v -> v >= 1 && v <= 6);
        sign(left, ",");
        int in = number(left, v -> v < rooms);
        sign(left, ",");
        int parts = number(left, v -> v <= 40);
        sign(left, ",");
        int limit = number(left, v -> v <= 99);
        sign(left, ";");
        List<Door> doors = new ArrayList<>();
        List<Boolean> open = new ArrayList<>();
        while (left.getFirst().is("d")) {
            Token letter = sign(left, "d");
            if (doors.size() == 8) {
                throw new Fault(3, letter);
            }
            int a = number(left, v -> v < rooms);
            sign(left, ",");
            int b = number(left, v -> v < rooms && v != a);
            sign(left, ",");
            open.add(number(left, v -> v <= 1) == 1);
            sign(left, ";");
            doors.add(new Door(a, b));
        }
        List<Integer> kinds = new ArrayList<>();
        List<Integer> places = new ArrayList<>();
        List<Integer> forces = new ArrayList<>();
        while (!left.getFirst().is("")) {
            Token letter = left.removeFirst();
            int kind = letter.text == null ? -1 : SORTS.indexOf(letter.text);
            if (kind < 1) {
                throw new Fault(1, letter);
            }
            if (kinds.size() == 5) {
                throw new Fault(3, letter);
            }
            kinds.add(kind);
            places.add(number(left, v -> v < rooms));
            sign(left, ",");
            forces.add(number(left, v -> v <= 20));
            sign(left, ";");
        }
        List<Integer> none = new ArrayList<>();
        for (int r = 0; r < rooms; r++) {
            none.add(0);
        }
        return new House(rooms, in, parts, limit, doors, open, kinds, places, forces, none, 0);
    }

    private int read() {
        String text = tape.toString();
        tape.setLength(0);
        try {
            house = parse(text);
            past.clear();
            return house.kinds.size();
        } catch (Fault f) {
            fault = f.number;
            return -1000100 - f.place;
        }
    }

    private void act(House next) {
        past.addLast(house);
        if (past.size() > 24) {
            past.removeFirst();
        }
        house = next;
    }

    private int undo() {
        if (past.isEmpty()) {
            return STATE;
        }
        house = past.removeLast();
        return past.size();
    }

    private int hours(int n) {
        if (house == null) {
            return STATE;
        }
        if (out(n, 1, 24)) {
            return BAD;
        }
        if (house.hour + n > 999) {
            return FULL;
        }
        for (int i = 0; i < n; i++) {
            act(house.later());
        }
        return house.all();
    }

    private int door(int door, int on) {
        if (noDoor(door) || out(on, 0, 1)) {
            return BAD;
        }
        if (house.open.get(door) == (on == 1)) {
            return STATE;
        }
        act(house.withMoved(1 << door));
        return house.openBits();
    }

    private int sit(int sitter, int room) {
        if (noSitter(sitter) || noRoom(room)) {
            return BAD;
        }
        int before = house.places.get(sitter);
        if (before == room) {
            return STATE;
        }
        act(house.withPlace(sitter, room));
        return before;
    }

    private int room(int room, int what) {
        if (house == null) {
            return STATE;
        }
        if (noRoom(room) || out(what, 0, 4)) {
            return BAD;
        }
        int bits = 0;
        if (what == 1) {
            for (int s = 0; s < house.places.size(); s++) {
                bits += house.places.get(s) == room ? 1 << s : 0;
            }
            return bits;
        }
        if (what == 4) {
            for (int d = 0; d < house.doors.size(); d++) {
                Door door = house.doors.get(d);
                bits += door.a == room || door.b == room ? 1 << d : 0;
            }
            return bits;
        }
        if (what == 0) {
            return house.cold.get(room);
        }
        return (what == 2 ? house.anybody(room, 1, 2, 3) : house.anybody(room, 2)) ? 1 : 0;
    }

    private int doorHas(int door, int what) {
        if (noDoor(door) || out(what, 0, 2)) {
            return BAD;
        }
        Door it = house.doors.get(door);
        return what == 0 ? it.a : what == 1 ? it.b : house.open.get(door) ? 1 : 0;
    }

    private int sitter(int sitter, int what) {
        if (noSitter(sitter) || out(what, 0, 2)) {
            return BAD;
        }
        return what == 0 ? house.places.get(sitter) : what == 1 ? house.forces.get(sitter) : house.shivers(sitter) ? 1 : 0;
    }

    private int shivers(int what) {
        if (out(what, 0, 1)) {
            return BAD;
        }
        for (int h = 0; h <= 60; h++) {
            int who = house.later(h).shivering();
            if (who >= 0) {
                return what == 0 ? h : who;
            }
        }
        return NONE;
    }

    private int moved(int cold, int warm, int t, int n, int what) {
        int none = ~((1 << house.rooms) - 1);
        if (((cold | warm) & none) != 0 || (cold & warm) != 0 || out(t, 1, 999) || out(n, 1, 24) || out(what, 0, 1)) {
            return BAD;
        }
        int best = -1;
        for (int set = 0; set < 1 << house.doors.size(); set++) {
            if (best >= 0 && Integer.bitCount(set) >= Integer.bitCount(best)) {
                continue;
            }
            List<Integer> then = house.withMoved(set).later(n).cold;
            boolean so = true;
            for (int r = 0; r < house.rooms; r++) {
                so &= (cold & 1 << r) == 0 || then.get(r) >= t;
                so &= (warm & 1 << r) == 0 || then.get(r) < t;
            }
            best = so ? set : best;
        }
        return best < 0 ? NONE : what == 0 ? Integer.bitCount(best) : best;
    }

    private int sitWhere(int sitter, int room, int n, int what) {
        if (noSitter(sitter) || noRoom(room) || out(n, 1, 24) || out(what, 0, 1)) {
            return BAD;
        }
        int where = 0;
        for (int r = 0; r < house.rooms; r++) {
            int cold = house.withPlace(sitter, r).later(n).cold.get(room);
            where = cold < house.withPlace(sitter, where).later(n).cold.get(room) ? r : where;
        }
        return what == 0 ? where : house.withPlace(sitter, where).later(n).cold.get(room);
    }

    private static int soon(House house, int room, int t) {
        House h = house;
        for (int i = 0; i <= 40; i++) {
            if (h.cold.get(room) >= t) {
                return i;
            }
            h = h.later();
        }
        return 1000;
    }

    private int led(int room, int t, int what) {
        if (noRoom(room) || out(t, 1, 999) || out(what, 0, 1)) {
            return BAD;
        }
        int best = soon(house, room, t);
        int by = NONE;
        for (int s = 0; s < house.places.size(); s++) {
            for (int r = 0; r < house.rooms; r++) {
                int hours = soon(house.withPlace(s, r), room, t);
                if (hours < best) {
                    best = hours;
                    by = 10 * s + r;
                }
            }
        }
        return best == 1000 ? NONE : what == 0 ? best : by;
    }

    private static boolean tells(House house, int[] row, int i, int n) {
        for (int h = 1; h <= n; h++) {
            for (int r = 0; r < house.rooms; r++) {
                if (row[i + (h - 1) * house.rooms + r] != house.later(h).cold.get(r)) {
                    return false;
                }
            }
        }
        return true;
    }

    private int came(int row, int i, int n) {
        if (out(row, 0, 7) || out(n, 1, 6)) {
            return BAD;
        }
        if (rows[row] == null) {
            return found(1);
        }
        if (outside(rows[row], i, n * house.rooms)) {
            return found(2);
        }
        int bits = 0;
        for (int r = 0; r < house.rooms; r++) {
            bits += tells(house.withIn(r), rows[row], i, n) ? 1 << r : 0;
        }
        return found(0) + bits;
    }

    private int who(int sitter, int row, int i, int n) {
        if (noSitter(sitter) || out(row, 0, 7) || out(n, 1, 6)) {
            return BAD;
        }
        if (rows[row] == null) {
            return found(1);
        }
        if (outside(rows[row], i, n * house.rooms)) {
            return found(2);
        }
        int bits = 0;
        for (int k = 1; k <= 5; k++) {
            bits += tells(house.withKind(sitter, k), rows[row], i, n) ? 1 << k : 0;
        }
        return found(0) + bits;
    }

    private int parted(int a, int b, int what) {
        if (noRoom(a) || noRoom(b) || out(what, 0, 1)) {
            return BAD;
        }
        if (a == b) {
            return NONE;
        }
        int best = 1 << 30;
        int which = -1;
        for (int set = (1 << house.doors.size()) - 1; set >= 0; set--) {
            if ((set & house.openBits()) != set) {
                continue;
            }
            boolean apart = (house.withMoved(set).reach(a, 0) & 1 << b) == 0;
            if (apart && Integer.bitCount(set) <= best) {
                best = Integer.bitCount(set);
                which = set;
            }
        }
        return what == 0 ? best : which;
    }

    private int coldest(int n, int what) {
        if (out(n, 0, 60) || out(what, 0, 1)) {
            return BAD;
        }
        List<Integer> cold = house.later(n).cold;
        int most = cold.stream().mapToInt(Integer::intValue).max().getAsInt();
        return what == 0 ? cold.indexOf(most) : most;
    }

    private long wind(int room, int p, int what) {
        if (noRoom(room) || out(p, 0, 10) || out(what, 0, 1)) {
            return BAD;
        }
        BigInteger above = odds(house, 0, room, p);
        BigInteger below = BigInteger.TEN.pow(Integer.bitCount(house.openBits()));
        BigInteger common = above.gcd(below);
        return (what == 0 ? above : below).divide(common).longValueExact();
    }

    private static BigInteger odds(House house, int from, int room, int p) {
        for (int d = from; d < house.doors.size(); d++) {
            if (house.open.get(d)) {
                BigInteger shut = odds(house.withMoved(1 << d), d + 1, room, p);
                BigInteger open = odds(house, d + 1, room, p);
                return shut.multiply(BigInteger.valueOf(p)).add(open.multiply(BigInteger.valueOf(10 - p)));
            }
        }
        return house.later().cold.get(room) > house.limit ? BigInteger.ONE : BigInteger.ZERO;
    }

    private int drawn(int n, int seed, int what) {
        if (out(n, 0, 60) || out(seed, 1, 999999) || out(what, 0, 1)) {
            return BAD;
        }
        BigInteger x = BigInteger.valueOf(seed);
        House h = house;
        int shivered = 0;
        for (int i = 0; i < n; i++) {
            x = x.multiply(BigInteger.valueOf(16807)).mod(BigInteger.valueOf(2147483647));
            if (!h.doors.isEmpty()) {
                h = h.withMoved(1 << x.mod(BigInteger.valueOf(h.doors.size())).intValue());
            }
            h = h.later();
            shivered += h.shivering() >= 0 ? 1 : 0;
        }
        return what == 0 ? h.all() : shivered;
    }

    private int image(int k) {
        if (out(k, 0, 1)) {
            return BAD;
        }
        if (house == null) {
            return STATE;
        }
        images[k] = house;
        return 1;
    }

    private int restore(int k) {
        if (out(k, 0, 1)) {
            return BAD;
        }
        if (images[k] == null) {
            return STATE;
        }
        house = images[k];
        past.clear();
        return 1;
    }

    private int as(int one, int kind) {
        if (noSitter(one) || out(kind, 0, 5)) {
            return BAD;
        }
        for (int k = house.kinds.get(one); k >= 0; k = PARENT[k]) {
            if (k == kind) {
                return found(0) + one;
            }
        }
        return found(3);
    }

    private int ask(int one, int what) {
        if (noSitter(one) || out(what, 0, 1)) {
            return BAD;
        }
        trace = new ArrayList<>();
        return anew(one, what);
    }

    /** The body told for the kind, or for the nearest kind that it is, too. */
    private int anew(int one, int what) {
        int[] bodies = what == 0 ? new int[] {10, 11, 12, 0, 13, 14} : new int[] {20, 21, 24, 22, 23, 0};
        int kind = house.kinds.get(one);
        while (bodies[kind] == 0) {
            kind = PARENT[kind];
        }
        return body(one, bodies[kind]);
    }

    private int body(int one, int number) {
        trace.add(number);
        return switch (number) {
            case 10 -> house.forces.get(one);
            case 11 -> body(one, 10) + anew(one, 1);
            case 12 -> 0 - body(one, 11);
            case 13 -> body(one, 10) - 100;
            case 14 -> body(one, 13) * 2;
            case 20 -> one;
            case 21 -> body(one, 20) + house.places.get(one);
            case 22 -> body(one, 21) - 1000;
            case 23 -> body(one, 20) - anew(one, 0);
            case 24 -> body(one, 21) * 2;
            default -> throw new IllegalArgumentException("body " + number);
        };
    }

    private int count(int what) {
        return switch (what) {
            case 0 -> (int) Arrays.stream(rows).filter(r -> r != null).count();
            case 1 -> house == null ? 0 : house.rooms;
            case 2 -> house == null ? 0 : house.doors.size();
            case 3 -> house == null ? 0 : house.kinds.size();
            case 4 -> house == null ? 0 : house.hour;
            case 5 -> house == null ? 0 : house.all();
            case 6 -> house == null ? 0 : house.openBits();
            case 7 -> past.size();
            case 8 -> tape.length();
            default -> BAD;
        };
    }
}

/** The cold that is let into a house at nine: where it goes, who holds it, what is to be done. */
public final class ColdGuest {
    public static final int NONE = -1000000, BAD = -1000001, STATE = -1000002, FULL = -1000003;

    private static final int FINDINGS = -1000010;
    private static final int NULL = 1, PLACE = 2, KIND = 3, SIZE = 4, STORE = 5;
    private static final int FAULTS = -1000100;

    private static final int MOST_HOURS_GONE = 999;
    private static final int MOST_HOURS_DONE = 24;
    private static final int MOST_HOURS_TOLD = 6;
    private static final int MOST_HOURS_AHEAD = 60;
    private static final int MOST_HOURS_PLANNED = 24;
    private static final int MOST_HOURS_LED = 40;
    private static final int MOST_COLD = 999;
    private static final int MOST_SEED = 999999;
    private static final int IMAGES = 2;

    private final Rows rows = new Rows();
    private final Tape tape = new Tape();
    private final House now = new House();
    private final Past past = new Past();
    private final Seer seer = new Seer();
    private final Asker asker = new Asker();
    private final House firstImage = new House();
    private final House secondImage = new House();
    private int latestFault;
    private int latestFinding;

    public ColdGuest() {
    }

    // ---- rows

    public int row(int row, int lane, int n) {
        if (!Rows.isRow(row) || !within(lane, 0, Rows.LANES - 1) || n > Rows.MOST_ITEMS) {
            return BAD;
        }
        if (n < 0) {
            return finding(SIZE);
        }
        rows.lay(row, lane, n);
        return noFinding(n);
    }

    public int set(int row, int i, int v) {
        if (!Rows.isRow(row)) {
            return BAD;
        }
        if (rows.isMissing(row)) {
            return finding(NULL);
        }
        if (!rows.hasPlaces(row, i, 1)) {
            return finding(PLACE);
        }
        return noFinding(rows.put(row, i, v));
    }

    public int copy(int a, int i, int b, int j, int n) {
        if (!Rows.isRow(a) || !Rows.isRow(b)) {
            return BAD;
        }
        if (rows.isMissing(a) || rows.isMissing(b)) {
            return finding(NULL);
        }
        if (!rows.sameLane(a, b)) {
            return finding(STORE);
        }
        if (!rows.hasPlaces(a, i, n) || !rows.hasPlaces(b, j, n)) {
            return finding(PLACE);
        }
        rows.carry(a, i, b, j, n);
        return noFinding(n);
    }

    public int drop(int row) {
        if (!Rows.isRow(row)) {
            return BAD;
        }
        if (rows.isMissing(row)) {
            return finding(NULL);
        }
        return noFinding(rows.takeAway(row));
    }

    // ---- what is told

    public int feed(int letter) {
        if (!within(letter, 0, 255)) {
            return BAD;
        }
        return tape.isFull() ? FULL : tape.append(letter);
    }

    public int house() {
        House draft = seer.trial;
        boolean sound = tape.readInto(draft);
        tape.empty();
        if (!sound) {
            latestFault = tape.faultFound;
            return FAULTS - tape.faultPlace;
        }
        now.become(draft);
        past.forget();
        return now.sitters;
    }

    public int fault() {
        return latestFault;
    }

    public int undo() {
        if (past.held == 0) {
            return STATE;
        }
        past.takeBack(now);
        return past.held;
    }

    // ---- what is done

    public int hours(int n) {
        if (!now.stands()) {
            return STATE;
        }
        if (!within(n, 1, MOST_HOURS_DONE)) {
            return BAD;
        }
        if (now.hour + n > MOST_HOURS_GONE) {
            return FULL;
        }
        for (int h = 0; h < n; h++) {
            past.keep(now);
            now.passHour();
        }
        return now.allCold();
    }

    public int door(int door, int on) {
        if (!now.hasDoor(door) || !within(on, 0, 1)) {
            return BAD;
        }
        if (now.isOpen(door) == (on == 1)) {
            return STATE;
        }
        past.keep(now);
        now.moveDoors(1 << door);
        return now.open;
    }

    public int sit(int sitter, int room) {
        if (!now.hasSitter(sitter) || !now.hasRoom(room)) {
            return BAD;
        }
        int before = now.places[sitter];
        if (before == room) {
            return STATE;
        }
        past.keep(now);
        now.places[sitter] = room;
        return before;
    }

    public int room(int room, int what) {
        if (!now.stands()) {
            return STATE;
        }
        if (!now.hasRoom(room)) {
            return BAD;
        }
        switch (what) {
            case 0: return now.cold[room];
            case 1: return now.sittersIn(room);
            case 2: return now.roomsWith(House.HOLDING) >> room & 1;
            case 3: return now.roomsWith(House.KEEPING) >> room & 1;
            case 4: return now.doorsOf(room);
            default: return BAD;
        }
    }

    public int doorHas(int door, int what) {
        if (!now.hasDoor(door)) {
            return BAD;
        }
        switch (what) {
            case 0: return now.oneSide[door];
            case 1: return now.otherSide[door];
            case 2: return now.isOpen(door) ? 1 : 0;
            default: return BAD;
        }
    }

    public int sitter(int sitter, int what) {
        if (!now.hasSitter(sitter)) {
            return BAD;
        }
        switch (what) {
            case 0: return now.places[sitter];
            case 1: return now.forces[sitter];
            case 2: return now.isShivering(sitter) ? 1 : 0;
            default: return BAD;
        }
    }

    // ---- foretold (ROOMS told as bits)

    public int ahead(int n, int room) {
        if (!now.stands()) {
            return STATE;
        }
        if (!within(n, 0, MOST_HOURS_AHEAD) || !now.hasRoom(room)) {
            return BAD;
        }
        seer.look(now, n);
        return seer.trial.cold[room];
    }

    public int allAhead(int n) {
        if (!now.stands()) {
            return STATE;
        }
        if (!within(n, 0, MOST_HOURS_AHEAD)) {
            return BAD;
        }
        seer.look(now, n);
        return seer.trial.allCold();
    }

    public int shivers(int what) {
        if (!now.stands()) {
            return STATE;
        }
        if (!within(what, 0, 1)) {
            return BAD;
        }
        seer.findShiver(now, MOST_HOURS_AHEAD);
        return seer.told(what);
    }

    public int moved(int cold, int warm, int t, int n, int what) {
        if (!now.stands()) {
            return STATE;
        }
        if (!now.hasRooms(cold) || !now.hasRooms(warm) || (cold & warm) != 0) {
            return BAD;
        }
        if (!within(t, 1, MOST_COLD) || !within(n, 1, MOST_HOURS_PLANNED) || !within(what, 0, 1)) {
            return BAD;
        }
        seer.findDoorsToMove(now, cold, warm, t, n);
        return seer.told(what);
    }

    public int sitWhere(int sitter, int room, int n, int what) {
        if (!now.hasSitter(sitter) || !now.hasRoom(room)) {
            return BAD;
        }
        if (!within(n, 1, MOST_HOURS_PLANNED) || !within(what, 0, 1)) {
            return BAD;
        }
        seer.findSeat(now, sitter, room, n);
        return seer.told(what);
    }

    public int led(int room, int t, int what) {
        if (!now.stands()) {
            return STATE;
        }
        if (!now.hasRoom(room) || !within(t, 1, MOST_COLD) || !within(what, 0, 1)) {
            return BAD;
        }
        seer.findSoonest(now, room, t, MOST_HOURS_LED);
        return seer.told(what);
    }

    public int came(int row, int i, int n) {
        if (!now.stands()) {
            return STATE;
        }
        if (!Rows.isRow(row) || !within(n, 1, MOST_HOURS_TOLD)) {
            return BAD;
        }
        if (rows.isMissing(row)) {
            return finding(NULL);
        }
        if (!rows.hasPlaces(row, i, n * now.rooms)) {
            return finding(PLACE);
        }
        return noFinding(seer.roomsItCameInto(now, rows, row, i, n));
    }

    public int who(int sitter, int row, int i, int n) {
        if (!now.hasSitter(sitter) || !Rows.isRow(row) || !within(n, 1, MOST_HOURS_TOLD)) {
            return BAD;
        }
        if (rows.isMissing(row)) {
            return finding(NULL);
        }
        if (!rows.hasPlaces(row, i, n * now.rooms)) {
            return finding(PLACE);
        }
        return noFinding(seer.kindsItMayBe(now, sitter, rows, row, i, n));
    }

    public int parted(int a, int b, int what) {
        if (!now.stands()) {
            return STATE;
        }
        if (!now.hasRoom(a) || !now.hasRoom(b) || !within(what, 0, 1)) {
            return BAD;
        }
        seer.findDoorsToShut(now, a, b);
        return seer.told(what);
    }

    public int coldest(int n, int what) {
        if (!now.stands()) {
            return STATE;
        }
        if (!within(n, 0, MOST_HOURS_AHEAD) || !within(what, 0, 1)) {
            return BAD;
        }
        seer.findColdest(now, n);
        return seer.told(what);
    }

    public int guest(int room) {
        if (!now.stands()) {
            return STATE;
        }
        return now.hasRoom(room) ? now.roomsLedTo(room, now.open) : BAD;
    }

    public long wind(int room, int p, int what) {
        if (!now.stands()) {
            return STATE;
        }
        if (!now.hasRoom(room) || !within(p, 0, Seer.CASES) || !within(what, 0, 1)) {
            return BAD;
        }
        seer.findOdds(now, room, p);
        return what == 0 ? seer.above : seer.below;
    }

    public int drawn(int n, int seed, int what) {
        if (!now.stands()) {
            return STATE;
        }
        if (!within(n, 0, MOST_HOURS_AHEAD) || !within(seed, 1, MOST_SEED) || !within(what, 0, 1)) {
            return BAD;
        }
        seer.drawHours(now, n, seed);
        return seer.told(what);
    }

    public int image(int k) {
        if (!within(k, 0, IMAGES - 1)) {
            return BAD;
        }
        if (!now.stands()) {
            return STATE;
        }
        imageOf(k).become(now);
        return 1;
    }

    public int restore(int k) {
        if (!within(k, 0, IMAGES - 1)) {
            return BAD;
        }
        if (!imageOf(k).stands()) {
            return STATE;
        }
        now.become(imageOf(k));
        past.forget();
        return 1;
    }

    // ---- asked

    public int kind(int one) {
        return now.hasSitter(one) ? now.kinds[one] : BAD;
    }

    public int as(int one, int kind) {
        if (!now.hasSitter(one) || !within(kind, House.SITTER, House.ICE)) {
            return BAD;
        }
        return House.isA(now.kinds[one], kind) ? noFinding(one) : finding(KIND);
    }

    public int ask(int one, int what) {
        if (!now.hasSitter(one) || !within(what, 0, 1)) {
            return BAD;
        }
        asker.startAnew();
        return what == 0 ? asker.sizeOf(now, one) : asker.markOf(now, one);
    }

    public int trace(int i) {
        return asker.bodyAt(i);
    }

    public int count(int what) {
        switch (what) {
            case 0: return rows.howMany();
            case 1: return now.rooms;
            case 2: return now.doors;
            case 3: return now.sitters;
            case 4: return now.hour;
            case 5: return now.allCold();
            case 6: return now.open;
            case 7: return past.held;
            case 8: return tape.length;
            default: return BAD;
        }
    }

    public int status() {
        return latestFinding;
    }

    private int finding(int number) {
        latestFinding = number;
        return FINDINGS - number;
    }

    private int noFinding(int answer) {
        latestFinding = 0;
        return answer;
    }

    private House imageOf(int k) {
        return k == 0 ? firstImage : secondImage;
    }

    private static boolean within(int v, int least, int most) {
        return v >= least && v <= most;
    }

    /** Rows of numbers, kept in one array made once, so that no call makes another. */
    private static final class Rows {
        static final int LANES = 3;
        static final int MOST_ITEMS = 40;
        private static final int ROWS = 8;
        private static final int MISSING = -1;

        private final int[] items = new int[ROWS * MOST_ITEMS];
        private final int[] lanes = new int[ROWS];
        private final int[] sizes = new int[ROWS];

        Rows() {
            for (int r = 0; r < ROWS; r++) {
                sizes[r] = MISSING;
            }
        }

        static boolean isRow(int row) {
            return row >= 0 && row < ROWS;
        }

        boolean isMissing(int row) {
            return sizes[row] == MISSING;
        }

        boolean sameLane(int a, int b) {
            return lanes[a] == lanes[b];
        }

        boolean hasPlaces(int row, int i, int n) {
            // i + n could wrap around; what is left behind i cannot
            return i >= 0 && n >= 0 && i <= sizes[row] && n <= sizes[row] - i;
        }

        void lay(int row, int lane, int n) {
            lanes[row] = lane;
            sizes[row] = n;
            for (int i = 0; i < n; i++) {
                items[row * MOST_ITEMS + i] = 0;
            }
        }

        int put(int row, int i, int v) {
            int cut = lowestBits(lanes[row], v);
            items[row * MOST_ITEMS + i] = cut;
            return cut;
        }

        int item(int row, int i) {
            return items[row * MOST_ITEMS + i];
        }

        void carry(int a, int i, int b, int j, int n) {
            System.arraycopy(items, a * MOST_ITEMS + i, items, b * MOST_ITEMS + j, n);
        }

        int takeAway(int row) {
            int had = sizes[row];
            sizes[row] = MISSING;
            return had;
        }

        int howMany() {
            int there = 0;
            for (int r = 0; r < ROWS; r++) {
                if (sizes[r] != MISSING) {
                    there++;
                }
            }
            return there;
        }

        private static int lowestBits(int lane, int v) {
            switch (lane) {
                case 0: return (byte) v;
                case 1: return (short) v;
                default: return v;
            }
        }
    }

    /** The bytes that were told, and the reading of them as a house. */
    private static final class Tape {
        private static final int MOST_BYTES = 120;
        private static final int MOST_FIGURES = 2;
        private static final int MOST_PARTS = 40, MOST_LIMIT = 99, MOST_FORCE = 20;
        private static final int NO_TOKEN = 1, WRONG_NUMBER = 2, NO_SPACE = 3;
        private static final int NO_NUMBER = -1;
        private static final int END = -1;

        private final int[] bytes = new int[MOST_BYTES];
        private int at;
        int length;
        int faultFound;
        int faultPlace;

        boolean isFull() {
            return length >= MOST_BYTES;
        }

        int append(int letter) {
            bytes[length] = letter;
            length++;
            return length;
        }

        void empty() {
            length = 0;
        }

        boolean readInto(House draft) {
            at = 0;
            draft.clear();
            return readLaw(draft) && readDoors(draft) && readSitters(draft);
        }

        private boolean readLaw(House draft) {
            if (!takeSign('n')) {
                return false;
            }
            int rooms = takeNumber(1, House.MOST_ROOMS);
            if (rooms == NO_NUMBER || !takeSign(',')) {
                return false;
            }
            int in = takeNumber(0, rooms - 1);
            if (in == NO_NUMBER || !takeSign(',')) {
                return false;
            }
            int parts = takeNumber(0, MOST_PARTS);
            if (parts == NO_NUMBER || !takeSign(',')) {
                return false;
            }
            int limit = takeNumber(0, MOST_LIMIT);
            if (limit == NO_NUMBER || !takeSign(';')) {
                return false;
            }
            draft.setLaw(rooms, in, parts, limit);
            return true;
        }

        private boolean readDoors(House draft) {
            for (int d = 0; d < House.MOST_DOORS; d++) {
                if (next() != 'd') {
                    return true;
                }
                if (!readDoor(draft)) {
                    return false;
                }
            }
            return next() != 'd' || fail(NO_SPACE);
        }

        private boolean readDoor(House draft) {
            at++;
            int a = takeNumber(0, draft.rooms - 1);
            if (a == NO_NUMBER || !takeSign(',')) {
                return false;
            }
            int before = at;
            int b = takeNumber(0, draft.rooms - 1);
            if (b == NO_NUMBER) {
                return false;
            }
            if (b == a) {
                at = before;
                return fail(WRONG_NUMBER);
            }
            if (!takeSign(',')) {
                return false;
            }
            int open = takeNumber(0, 1);
            if (open == NO_NUMBER || !takeSign(';')) {
                return false;
            }
            draft.addDoor(a, b, open == 1);
            return true;
        }

        private boolean readSitters(House draft) {
            for (int s = 0; s < House.MOST_SITTERS; s++) {
                if (next() == END) {
                    return true;
                }
                if (!readSitter(draft)) {
                    return false;
                }
            }
            if (next() == END) {
                return true;
            }
            return fail(kindOfLetter(next()) == House.SITTER ? NO_TOKEN : NO_SPACE);
        }

        private boolean readSitter(House draft) {
            int kind = kindOfLetter(next());
            if (kind == House.SITTER) {
                return fail(NO_TOKEN);
            }
            at++;
            int room = takeNumber(0, draft.rooms - 1);
            if (room == NO_NUMBER || !takeSign(',')) {
                return false;
            }
            int force = takeNumber(0, MOST_FORCE);
            if (force == NO_NUMBER || !takeSign(';')) {
                return false;
            }
            draft.addSitter(kind, room, force);
            return true;
        }

        private static int kindOfLetter(int letter) {
            switch (letter) {
                case 'r': return House.READER;
                case 'p': return House.PIANIST;
                case 't': return House.TALKER;
                case 'f': return House.FIRE;
                case 'i': return House.ICE;
                default: return House.SITTER;
            }
        }

        private boolean takeSign(int sign) {
            if (next() != sign) {
                return fail(NO_TOKEN);
            }
            at++;
            return true;
        }

        private int takeNumber(int least, int most) {
            int figures = figuresAhead();
            if (figures == 0 || figures > MOST_FIGURES) {
                fail(NO_TOKEN);
                return NO_NUMBER;
            }
            int value = 0;
            for (int f = 0; f < figures; f++) {
                value = value * 10 + bytes[at + f] - '0';
            }
            if (value < least || value > most) {
                fail(WRONG_NUMBER);
                return NO_NUMBER;
            }
            at += figures;
            return value;
        }

        private int figuresAhead() {
            int end = at;
            while (end < length && bytes[end] >= '0' && bytes[end] <= '9') {
                end++;
            }
            return end - at;
        }

        private int next() {
            return at < length ? bytes[at] : END;
        }

        private boolean fail(int number) {
            faultFound = number;
            faultPlace = at;
            return false;
        }
    }

    /** A house with its rooms, doors and sitters, and the cold in it; without rooms it is none. */
    private static final class House {
        static final int MOST_ROOMS = 6, MOST_DOORS = 8, MOST_SITTERS = 5;
        static final int SITTER = 0, READER = 1, PIANIST = 2, TALKER = 3, FIRE = 4, ICE = 5;
        static final int HOLDING = 1 << READER | 1 << PIANIST | 1 << TALKER;
        static final int KEEPING = 1 << PIANIST;
        static final int NOBODY = -1;

        int rooms;
        int in;
        int parts;
        int limit;
        int hour;
        int doors;
        int open;
        int sitters;
        final int[] oneSide = new int[MOST_DOORS];
        final int[] otherSide = new int[MOST_DOORS];
        final int[] kinds = new int[MOST_SITTERS];
        final int[] places = new int[MOST_SITTERS];
        final int[] forces = new int[MOST_SITTERS];
        final int[] cold = new int[MOST_ROOMS];

        boolean stands() {
            return rooms > 0;
        }

        boolean hasRoom(int room) {
            return room >= 0 && room < rooms;
        }

        boolean hasRooms(int bits) {
            return bits >= 0 && bits < 1 << rooms;
        }

        boolean hasDoor(int door) {
            return door >= 0 && door < doors;
        }

        boolean hasSitter(int sitter) {
            return sitter >= 0 && sitter < sitters;
        }

        void clear() {
            rooms = 0;
            hour = 0;
            doors = 0;
            open = 0;
            sitters = 0;
            for (int r = 0; r < MOST_ROOMS; r++) {
                cold[r] = 0;
            }
        }

        void setLaw(int roomCount, int inRoom, int partsAnHour, int shiverLimit) {
            rooms = roomCount;
            in = inRoom;
            parts = partsAnHour;
            limit = shiverLimit;
        }

        void addDoor(int a, int b, boolean isOpen) {
            oneSide[doors] = a;
            otherSide[doors] = b;
            if (isOpen) {
                open |= 1 << doors;
            }
            doors++;
        }

        void addSitter(int kind, int room, int force) {
            kinds[sitters] = kind;
            places[sitters] = room;
            forces[sitters] = force;
            sitters++;
        }

        void become(House other) {
            rooms = other.rooms;
            in = other.in;
            parts = other.parts;
            limit = other.limit;
            hour = other.hour;
            doors = other.doors;
            open = other.open;
            sitters = other.sitters;
            System.arraycopy(other.oneSide, 0, oneSide, 0, MOST_DOORS);
            System.arraycopy(other.otherSide, 0, otherSide, 0, MOST_DOORS);
            System.arraycopy(other.kinds, 0, kinds, 0, MOST_SITTERS);
            System.arraycopy(other.places, 0, places, 0, MOST_SITTERS);
            System.arraycopy(other.forces, 0, forces, 0, MOST_SITTERS);
            System.arraycopy(other.cold, 0, cold, 0, MOST_ROOMS);
        }

        void passHour() {
            passHours(1);
        }

        void passHours(int n) {
            // nobody moves while hours pass, so who holds where is looked up once
            int held = roomsWith(HOLDING);
            int kept = roomsWith(KEEPING);
            for (int h = 0; h < n; h++) {
                cold[in] = Math.min(MOST_COLD, cold[in] + parts);
                passDoors(held, kept);
                passSitters();
                hour++;
            }
        }

        private void passDoors(int held, int kept) {
            for (int d = 0; d < doors; d++) {
                if (isOpen(d)) {
                    flow(oneSide[d], otherSide[d], held, kept);
                }
            }
        }

        private void passSitters() {
            for (int s = 0; s < sitters; s++) {
                int room = places[s];
                int then = cold[room] + chill(kinds[s], forces[s]);
                cold[room] = Math.max(0, Math.min(MOST_COLD, then));
            }
        }

        private void flow(int a, int b, int held, int kept) {
            int from = cold[a] > cold[b] ? a : b;
            int to = from == a ? b : a;
            if ((kept >> from & 1) != 0) {
                return;
            }
            int goes = (cold[from] - cold[to]) / 4;
            if ((held >> from & 1) != 0) {
                goes /= 2;
            }
            cold[from] -= goes;
            cold[to] += goes;
        }

        private static int chill(int kind, int force) {
            switch (kind) {
                case TALKER: return -force;
                case FIRE: return -2 * force;
                case ICE: return force;
                default: return 0;
            }
        }

        static boolean isA(int kind, int other) {
            if (other == SITTER || kind == other) {
                return true;
            }
            if (other == READER) {
                return kind == PIANIST || kind == TALKER;
            }
            return other == FIRE && kind == ICE;
        }

        int roomsWith(int kindBits) {
            int bits = 0;
            for (int s = 0; s < sitters; s++) {
                if ((kindBits >> kinds[s] & 1) != 0) {
                    bits |= 1 << places[s];
                }
            }
            return bits;
        }

        int sittersIn(int room) {
            int bits = 0;
            for (int s = 0; s < sitters; s++) {
                if (places[s] == room) {
                    bits |= 1 << s;
                }
            }
            return bits;
        }

        int doorsOf(int room) {
            int bits = 0;
            for (int d = 0; d < doors; d++) {
                if (oneSide[d] == room || otherSide[d] == room) {
                    bits |= 1 << d;
                }
            }
            return bits;
        }

        boolean isOpen(int door) {
            return (open >> door & 1) != 0;
        }

        void moveDoors(int bits) {
            open ^= bits;
        }

        /** The rooms that can be come to from one, itself too, by these doors. */
        int roomsLedTo(int room, int byDoors) {
            int bits = 1 << room;
            // each round comes to one room more at least, or to none any more
            for (int round = 1; round < rooms; round++) {
                for (int d = 0; d < doors; d++) {
                    int ends = 1 << oneSide[d] | 1 << otherSide[d];
                    if ((byDoors >> d & 1) != 0 && (bits & ends) != 0) {
                        bits |= ends;
                    }
                }
            }
            return bits;
        }

        int allCold() {
            int all = 0;
            for (int r = 0; r < rooms; r++) {
                all += cold[r];
            }
            return all;
        }

        boolean isShivering(int sitter) {
            return cold[places[sitter]] > limit;
        }

        int firstShivering() {
            for (int s = 0; s < sitters; s++) {
                if (isShivering(s)) {
                    return s;
                }
            }
            return NOBODY;
        }
    }

    /** What can be undone: what acts may change, as it was ahead of each of the latest ones. */
    private static final class Past {
        private static final int MOST_ACTS = 24;
        private static final int HOUR_AT = 0, OPEN_AT = 1, COLD_AT = 2;
        private static final int PLACES_AT = COLD_AT + House.MOST_ROOMS;
        private static final int WIDTH = PLACES_AT + House.MOST_SITTERS;

        private final int[] was = new int[MOST_ACTS * WIDTH];
        private int oldest;
        int held;

        void forget() {
            held = 0;
        }

        void keep(House house) {
            int base = (oldest + held) % MOST_ACTS * WIDTH;
            was[base + HOUR_AT] = house.hour;
            was[base + OPEN_AT] = house.open;
            System.arraycopy(house.cold, 0, was, base + COLD_AT, House.MOST_ROOMS);
            System.arraycopy(house.places, 0, was, base + PLACES_AT, House.MOST_SITTERS);
            if (held < MOST_ACTS) {
                held++;
            } else {
                oldest = (oldest + 1) % MOST_ACTS;
            }
        }

        void takeBack(House house) {
            if (held == 0) {
                return;
            }
            held--;
            int base = (oldest + held) % MOST_ACTS * WIDTH;
            house.hour = was[base + HOUR_AT];
            house.open = was[base + OPEN_AT];
            System.arraycopy(was, base + COLD_AT, house.cold, 0, House.MOST_ROOMS);
            System.arraycopy(was, base + PLACES_AT, house.places, 0, House.MOST_SITTERS);
        }
    }

    /** Foretells on a trial house, so that the one that stands is never changed. */
    private static final class Seer {
        static final int CASES = 10;
        private static final long FACTOR = 16807, MODULUS = 2147483647;
        // Euclid's way with numbers below 2 to the 32nd takes fewer steps than this
        private static final int MOST_STEPS = 64;

        final House trial = new House();
        private int first;
        private int second;
        long above;
        long below;

        int told(int what) {
            return what == 0 ? first : second;
        }

        private void tell(int one, int other) {
            first = one;
            second = other;
        }

        void look(House now, int n) {
            trial.become(now);
            trial.passHours(n);
        }

        void findShiver(House now, int most) {
            tell(NONE, NONE);
            trial.become(now);
            for (int h = 0; h <= most; h++) {
                int sitter = trial.firstShivering();
                if (sitter != House.NOBODY) {
                    tell(h, sitter);
                    return;
                }
                trial.passHour();
            }
        }

        void findDoorsToMove(House now, int cold, int warm, int t, int n) {
            tell(NONE, NONE);
            int sets = 1 << now.doors;
            for (int size = 0; size <= now.doors; size++) {
                for (int set = 0; set < sets; set++) {
                    if (Integer.bitCount(set) != size) {
                        continue;
                    }
                    lookWithMoved(now, set, n);
                    if (isColdAndWarm(cold, warm, t)) {
                        tell(size, set);
                        return;
                    }
                }
            }
        }

        private void lookWithMoved(House now, int set, int n) {
            trial.become(now);
            trial.moveDoors(set);
            trial.passHours(n);
        }

        private boolean isColdAndWarm(int cold, int warm, int t) {
            for (int r = 0; r < trial.rooms; r++) {
                int against = trial.cold[r] >= t ? warm : cold;
                if ((against >> r & 1) != 0) {
                    return false;
                }
            }
            return true;
        }

        void findSeat(House now, int sitter, int room, int n) {
            tell(NONE, NONE);
            for (int r = 0; r < now.rooms; r++) {
                trial.become(now);
                trial.places[sitter] = r;
                trial.passHours(n);
                if (first == NONE || trial.cold[room] < second) {
                    tell(r, trial.cold[room]);
                }
            }
        }

        void findSoonest(House now, int room, int t, int most) {
            trial.become(now);
            tell(hoursUntil(room, t, most), NONE);
            for (int s = 0; s < now.sitters; s++) {
                for (int r = 0; r < now.rooms; r++) {
                    // only what is sooner still counts, so that of several the first stays
                    int bound = first == NONE ? most : first - 1;
                    trial.become(now);
                    trial.places[s] = r;
                    int soon = hoursUntil(room, t, bound);
                    if (soon != NONE) {
                        tell(soon, 10 * s + r);
                    }
                }
            }
        }

        private int hoursUntil(int room, int t, int most) {
            for (int h = 0; h <= most; h++) {
                if (trial.cold[room] >= t) {
                    return h;
                }
                trial.passHour();
            }
            return NONE;
        }

        int roomsItCameInto(House now, Rows rows, int row, int i, int n) {
            int bits = 0;
            for (int r = 0; r < now.rooms; r++) {
                trial.become(now);
                trial.in = r;
                if (isAsTold(rows, row, i, n)) {
                    bits |= 1 << r;
                }
            }
            return bits;
        }

        int kindsItMayBe(House now, int sitter, Rows rows, int row, int i, int n) {
            int bits = 0;
            for (int k = House.READER; k <= House.ICE; k++) {
                trial.become(now);
                trial.kinds[sitter] = k;
                if (isAsTold(rows, row, i, n)) {
                    bits |= 1 << k;
                }
            }
            return bits;
        }

        private boolean isAsTold(Rows rows, int row, int i, int n) {
            int at = i;
            for (int h = 0; h < n; h++) {
                trial.passHour();
                for (int r = 0; r < trial.rooms; r++) {
                    if (rows.item(row, at) != trial.cold[r]) {
                        return false;
                    }
                    at++;
                }
            }
            return true;
        }

        void findDoorsToShut(House now, int a, int b) {
            tell(NONE, NONE);
            if (a == b) {
                return;
            }
            int sets = 1 << now.doors;
            for (int set = 0; set < sets; set++) {
                int size = Integer.bitCount(set);
                boolean fewer = first == NONE || size < first;
                if (fewer && (set & ~now.open) == 0 && isPartedBy(now, set, a, b)) {
                    tell(size, set);
                }
            }
        }

        private static boolean isPartedBy(House now, int set, int a, int b) {
            return (now.roomsLedTo(a, now.open & ~set) >> b & 1) == 0;
        }

        void findColdest(House now, int n) {
            look(now, n);
            tell(0, trial.cold[0]);
            for (int r = 1; r < trial.rooms; r++) {
                if (trial.cold[r] > second) {
                    tell(r, trial.cold[r]);
                }
            }
        }

        void findOdds(House now, int room, int p) {
            int openDoors = Integer.bitCount(now.open);
            int sets = 1 << now.doors;
            long cases = 0;
            for (int set = 0; set < sets; set++) {
                if ((set & ~now.open) != 0) {
                    continue;
                }
                lookWithMoved(now, set, 1);
                if (trial.cold[room] > trial.limit) {
                    int shut = Integer.bitCount(set);
                    cases += power(p, shut) * power(CASES - p, openDoors - shut);
                }
            }
            tellFraction(cases, power(CASES, openDoors));
        }

        private void tellFraction(long upper, long lower) {
            long common = Math.max(1, divisorOfBoth(lower, upper));
            above = upper / common;
            below = lower / common;
        }

        private static long power(int base, int exponent) {
            long product = 1;
            for (int e = 0; e < exponent; e++) {
                product *= base;
            }
            return product;
        }

        private static long divisorOfBoth(long one, long other) {
            long a = one;
            long b = other;
            for (int step = 0; step < MOST_STEPS && b != 0; step++) {
                long rest = a % b;
                a = b;
                b = rest;
            }
            return a;
        }

        void drawHours(House now, int n, int seed) {
            trial.become(now);
            long x = seed;
            int shivered = 0;
            for (int h = 0; h < n; h++) {
                x = x * FACTOR % MODULUS;
                if (trial.doors > 0) {
                    trial.moveDoors(1 << (int) (x % trial.doors));
                }
                trial.passHour();
                if (trial.firstShivering() != House.NOBODY) {
                    shivered++;
                }
            }
            tell(trial.allCold(), shivered);
        }
    }

    /** Asks of sitters, by bodies, and the trace of the bodies that began. */
    private static final class Asker {
        private static final int MOST_TRACED = 16;

        private final int[] traced = new int[MOST_TRACED];
        private int length;

        void startAnew() {
            length = 0;
        }

        int bodyAt(int i) {
            return i >= 0 && i < length ? traced[i] : NONE;
        }

        private void begin(int body) {
            if (length < MOST_TRACED) {
                traced[length] = body;
                length++;
            }
        }

        int sizeOf(House now, int one) {
            switch (now.kinds[one]) {
                case House.READER:
                case House.TALKER:
                    return readerSize(now, one);
                case House.PIANIST:
                    begin(12);
                    return -readerSize(now, one);
                case House.FIRE:
                case House.ICE:
                    return sizeOfFires(now, one);
                default:
                    return lentSize(now, one);
            }
        }

        int markOf(House now, int one) {
            switch (now.kinds[one]) {
                case House.READER:
                case House.PIANIST:
                case House.TALKER:
                    return markOfReaders(now, one);
                case House.FIRE:
                case House.ICE:
                    return fireMark(now, one);
                default:
                    return lentMark(one);
            }
        }

        // size and mark ask each other anew; as readers and fires are asked apart,
        // no method comes round to itself

        private int sizeOfFires(House now, int one) {
            if (now.kinds[one] == House.ICE) {
                begin(14);
                return 2 * fireSize(now, one);
            }
            return fireSize(now, one);
        }

        private int markOfReaders(House now, int one) {
            switch (now.kinds[one]) {
                case House.PIANIST:
                    begin(24);
                    return 2 * readerMark(now, one);
                case House.TALKER:
                    begin(22);
                    return readerMark(now, one) - 1000;
                default:
                    return readerMark(now, one);
            }
        }

        private int lentSize(House now, int one) {
            begin(10);
            return now.forces[one];
        }

        private int readerSize(House now, int one) {
            begin(11);
            int lent = lentSize(now, one);
            return lent + markOfReaders(now, one);
        }

        private int fireSize(House now, int one) {
            begin(13);
            return lentSize(now, one) - 100;
        }

        private int lentMark(int one) {
            begin(20);
            return one;
        }

        private int readerMark(House now, int one) {
            begin(21);
            return lentMark(one) + now.places[one];
        }

        private int fireMark(House now, int one) {
            begin(23);
            int lent = lentMark(one);
            return lent - sizeOfFires(now, one);
        }
    }
}

/** Rooms from which others are seen, crowds that go by bells, and what can be foretold of them. */
public final class MostRooms {
    public static final int NONE = -1000000, BAD = -1000001, STATE = -1000002, FULL = -1000003;

    private static final int FINDINGS = -1000010, FAULTS = -1000100;
    private static final int NULL = 1, PLACE = 2, KIND = 3, SIZE = 4, STORE = 5;

    private static final int ROWS_MOST = 8, ITEMS_MOST = 40, LANES = 3;
    private static final int ROOMS_MOST = 6, CROWDS_MOST = 5, DOORS_MOST = 12;
    private static final int SEATS_MOST = 99, TOLD_HEADS_MOST = 50, HEADS_MOST = 99;
    private static final int TAPE_MOST = 400, BELLS_MOST = 9999, ACTS_MOST = 24, IMAGES_MOST = 2;
    private static final int AHEAD_MOST = 60, HIRED_BELLS_MOST = 20, HIRED_MOST = 60, BEGAN_MOST = 9;

    /** The KINDS; a SORT is held as the number of its KIND. */
    private static final int MOST = 1, LIKE = 2, LATE = 3, STAY = 4, FEW = 5;
    /** By KIND: the nearest KIND that it is, too; CROWD (0) is no other. */
    private static final int[] PARENT = {0, 0, 1, 1, 0, 4};
    /** By KIND: the BODY told for it; 0: none is told. */
    private static final int[] SIZE_BODY = {10, 11, 12, 0, 13, 14};
    private static final int[] MARK_BODY = {20, 21, 24, 22, 23, 0};

    private final Row[] rows = new Row[ROWS_MOST];
    private final Tape tape = new Tape();
    private final Reader reader = new Reader(tape);
    private final House now = new House();
    private final House[] images = new House[IMAGES_MOST];
    private final Acts acts = new Acts();
    private final Future future = new Future(now);
    private final Asks asks = new Asks(now);
    private int faultNumber;
    private int finding;

    public MostRooms() {
        for (int i = 0; i < ROWS_MOST; i++) {
            rows[i] = new Row();
        }
        for (int k = 0; k < IMAGES_MOST; k++) {
            images[k] = new House();
        }
    }

    // ---- rows

    public int row(int row, int lane, int n) {
        if (!isRow(row) || lane < 0 || lane >= LANES || n > ITEMS_MOST) {
            return BAD;
        }
        if (n < 0) {
            return found(SIZE);
        }
        rows[row].make(lane, n);
        finding = 0;
        return n;
    }

    public int set(int row, int i, int v) {
        if (!isRow(row)) {
            return BAD;
        }
        Row r = rows[row];
        if (!r.there) {
            return found(NULL);
        }
        if (!r.holds(i, 1)) {
            return found(PLACE);
        }
        finding = 0;
        return r.put(i, v);
    }

    public int copy(int a, int i, int b, int j, int n) {
        if (!isRow(a) || !isRow(b)) {
            return BAD;
        }
        Row from = rows[a];
        Row to = rows[b];
        if (!from.there || !to.there) {
            return found(NULL);
        }
        if (from.lane != to.lane) {
            return found(STORE);
        }
        if (!from.holds(i, n) || !to.holds(j, n)) {
            return found(PLACE);
        }
        System.arraycopy(from.items, i, to.items, j, n);
        finding = 0;
        return n;
    }

    public int drop(int row) {
        if (!isRow(row)) {
            return BAD;
        }
        if (!rows[row].there) {
            return found(NULL);
        }
        rows[row].there = false;
        finding = 0;
        return rows[row].size;
    }

    // ---- houses, bells

    public int feed(long w, int n) {
        if (n < 1 || n > 8) {
            return BAD;
        }
        if (n > TAPE_MOST - tape.size) {
            return FULL;
        }
        tape.append(w, n);
        return tape.size;
    }

    public int house() {
        boolean whole = reader.readTape();
        int place = tape.start;
        tape.size = 0;
        if (!whole) {
            faultNumber = reader.faultNumber;
            return FAULTS - place;
        }
        now.take(reader.plan);
        acts.forgetAll();
        return now.rooms;
    }

    public int fault() {
        return faultNumber;
    }

    public int bell() {
        if (now.rooms == 0) {
            return STATE;
        }
        if (now.gone >= BELLS_MOST) {
            return FULL;
        }
        acts.keep(now);
        return now.ring();
    }

    public int bells(int row, int i, int n) {
        if (now.rooms == 0) {
            return STATE;
        }
        if (!isRow(row) || n < 1 || n > ACTS_MOST) {
            return BAD;
        }
        Row r = rows[row];
        if (!r.there) {
            return found(NULL);
        }
        if (!r.holds(i, n)) {
            return found(PLACE);
        }
        if (!r.holdsSets(i, n, 1 << now.crowds)) {
            return BAD;
        }
        if (now.gone > BELLS_MOST - n || tooManyHeads(r, i, n)) {
            return FULL;
        }
        for (int k = 0; k < n; k++) {
            acts.keep(now);
            now.ring();
            now.addHeads(r.items[i + k]);
        }
        finding = 0;
        return now.allHeads();
    }

    public int door(int a, int b, int is) {
        if (!now.isRoom(a) || !now.isRoom(b) || a == b || is < 0 || is > 1) {
            return BAD;
        }
        int was = now.doorBetween(a, b);
        acts.keep(now);
        now.putDoor(a, b, is);
        return was;
    }

    public int heads(int crowd, int n) {
        if (!now.isCrowd(crowd) || n < 1 || n > HEADS_MOST) {
            return BAD;
        }
        int was = now.heads[crowd];
        acts.keep(now);
        now.heads[crowd] = n;
        return was;
    }

    public int undo() {
        if (acts.held == 0) {
            return STATE;
        }
        acts.takeBack(now);
        return acts.held;
    }

    public int crowd(int crowd, int what) {
        if (!now.isCrowd(crowd) || what < 0 || what > 1) {
            return BAD;
        }
        return what == 0 ? now.at[crowd] : now.heads[crowd];
    }

    public int room(int room, int what) {
        if (!now.isRoom(room) || what < 0 || what > 2) {
            return BAD;
        }
        if (what == 0) {
            return now.seats[room];
        }
        return what == 1 ? now.headsIn(room) : now.seen[room];
    }

    // ---- foretold

    public int ahead(int crowd, int n) {
        if (!now.isCrowd(crowd) || n < 0 || n > AHEAD_MOST) {
            return BAD;
        }
        return future.whereBehind(crowd, n);
    }

    public int roomAhead(int room, int n, int what) {
        if (!now.isRoom(room) || n < 0 || n > AHEAD_MOST || what < 0 || what > 1) {
            return BAD;
        }
        return what == 0 ? future.headsBehind(room, n) : future.worth(room, n);
    }

    public int rest(int what) {
        if (now.rooms == 0) {
            return STATE;
        }
        if (what < 0 || what > 1) {
            return BAD;
        }
        return what == 0 ? future.bellsToRest() : future.bellsToRing();
    }

    public int hired(int room, int n, int what) {
        return fewest(room, n, what, false);
    }

    public int empty(int room, int n, int what) {
        return fewest(room, n, what, true);
    }

    public int apart(int a, int b, int n) {
        if (!now.isCrowd(a) || !now.isCrowd(b) || a == b || n < 1 || n > AHEAD_MOST) {
            return BAD;
        }
        return future.doorToShut(a, b, n);
    }

    public int began(int crowd, int n) {
        if (now.rooms == 0) {
            return STATE;
        }
        if ((crowd != -1 && !now.isCrowd(crowd)) || n < 0 || n > BEGAN_MOST) {
            return BAD;
        }
        future.findBeginnings(n);
        if (crowd == -1) {
            return future.ways;
        }
        return future.ways == 0 ? NONE : future.first[crowd];
    }

    public int image(int k) {
        if (k < 0 || k >= IMAGES_MOST) {
            return BAD;
        }
        if (now.rooms == 0) {
            return STATE;
        }
        images[k].take(now);
        return 1;
    }

    public int restore(int k) {
        if (k < 0 || k >= IMAGES_MOST) {
            return BAD;
        }
        if (images[k].rooms == 0) {
            return STATE;
        }
        now.take(images[k]);
        acts.forgetAll();
        return 1;
    }

    // ---- asked

    public int kind(int crowd) {
        return now.isCrowd(crowd) ? now.sort[crowd] : BAD;
    }

    public int as(int crowd, int kind) {
        if (!now.isCrowd(crowd) || kind < 0 || kind > FEW) {
            return BAD;
        }
        if (!isA(now.sort[crowd], kind)) {
            return found(KIND);
        }
        finding = 0;
        return crowd;
    }

    public int ask(int crowd, int what) {
        if (!now.isCrowd(crowd) || what < 0 || what > 1) {
            return BAD;
        }
        return asks.askAnew(crowd, what);
    }

    public int trace(int i) {
        return i < 0 || i >= asks.left ? NONE : asks.trace[i];
    }

    public int count(int what) {
        switch (what) {
            case 0: return countRows();
            case 1: return now.rooms;
            case 2: return now.crowds;
            case 3: return now.gone;
            case 4: return acts.held;
            case 5: return now.allHeads();
            case 6: return tape.size;
            default: return BAD;
        }
    }

    public int status() {
        return finding;
    }

    private static boolean isRow(int row) {
        return row >= 0 && row < ROWS_MOST;
    }

    private int found(int number) {
        finding = number;
        return FINDINGS - number;
    }

    private int countRows() {
        int n = 0;
        for (int i = 0; i < ROWS_MOST; i++) {
            if (rows[i].there) {
                n++;
            }
        }
        return n;
    }

    /** Heads only grow by a ROW, so that only the last of them need be looked at. */
    private boolean tooManyHeads(Row r, int i, int n) {
        for (int c = 0; c < now.crowds; c++) {
            if (now.heads[c] + r.countBit(i, n, c) > HEADS_MOST) {
                return true;
            }
        }
        return false;
    }

    private int fewest(int room, int n, int what, boolean emptied) {
        if (!now.isRoom(room) || n < 1 || n > HIRED_BELLS_MOST || what < 0 || what > 1) {
            return BAD;
        }
        if (!future.findHired(room, n, emptied)) {
            return NONE;
        }
        return what == 0 ? future.hiredHeads : future.hiredRoom;
    }

    private static boolean isA(int sort, int kind) {
        int k = sort;
        for (int depth = 0; depth < PARENT.length && k != kind && k > 0; depth++) {
            k = PARENT[k];
        }
        return k == kind;
    }

    /** A ROW, or the place for one that is missing. */
    private static final class Row {
        final int[] items = new int[ITEMS_MOST];
        boolean there;
        int lane;
        int size;

        void make(int newLane, int n) {
            there = true;
            lane = newLane;
            size = n;
            for (int i = 0; i < n; i++) {
                items[i] = 0;
            }
        }

        /** Written without a sum, which could wrap around. */
        boolean holds(int i, int n) {
            return n >= 0 && i >= 0 && n <= size && i <= size - n;
        }

        int put(int i, int v) {
            int kept = lane == 0 ? (byte) v : lane == 1 ? (short) v : v;
            items[i] = kept;
            return kept;
        }

        boolean holdsSets(int i, int n, int end) {
            for (int k = i; k < i + n; k++) {
                if (items[k] < 0 || items[k] >= end) {
                    return false;
                }
            }
            return true;
        }

        int countBit(int i, int n, int bit) {
            int times = 0;
            for (int k = i; k < i + n; k++) {
                times += (items[k] >> bit) & 1;
            }
            return times;
        }
    }

    /** The bytes that were fed, and the TOKEN at which a reader of them is. */
    private static final class Tape {
        static final int END = 0, NAME = 1, NUMBER = 2, SIGN = 3, OTHER = 4;
        static final int FIGURES_MOST = 3;

        final int[] bytes = new int[TAPE_MOST];
        int size;
        int token;
        int start;
        int next;
        int value;

        void append(long w, int n) {
            for (int k = n - 1; k >= 0; k--) {
                bytes[size] = (int) (w >>> (8 * k)) & 255;
                size++;
            }
        }

        void rewind() {
            next = 0;
            step();
        }

        void step() {
            while (next < size && isBlank(bytes[next])) {
                next++;
            }
            start = next;
            if (next >= size) {
                token = END;
            } else if (isLetter(bytes[next])) {
                passLetters();
            } else if (isFigure(bytes[next])) {
                passFigures();
            } else {
                token = bytes[next] == ';' ? SIGN : OTHER;
                next++;
            }
        }

        boolean isWord(String word) {
            if (token != NAME || next - start != word.length()) {
                return false;
            }
            for (int k = 0; k < word.length(); k++) {
                if (bytes[start + k] != word.charAt(k)) {
                    return false;
                }
            }
            return true;
        }

        private void passLetters() {
            token = NAME;
            while (next < size && isLetter(bytes[next])) {
                next++;
            }
        }

        private void passFigures() {
            value = 0;
            while (next < size && isFigure(bytes[next])) {
                if (next - start < FIGURES_MOST) {
                    value = value * 10 + bytes[next] - '0';
                }
                next++;
            }
            token = next - start <= FIGURES_MOST ? NUMBER : OTHER;
        }

        private static boolean isBlank(int b) {
            return b == 32 || b == 10;
        }

        private static boolean isLetter(int b) {
            return b >= 'a' && b <= 'z';
        }

        private static boolean isFigure(int b) {
            return b >= '0' && b <= '9';
        }
    }

    /** Reads the tape into a plan, so that a FAULT leaves the HOUSE that stands as it is. */
    private static final class Reader {
        static final int MISPLACED = 1, UNTOLD = 2, TOO_MANY = 3;
        static final int AT_ROOMS = 0, AT_DOORS = 1, AT_CROWDS = 2;

        final Tape tape;
        final House plan = new House();
        int part;
        int doors;
        int faultNumber;

        Reader(Tape tape) {
            this.tape = tape;
        }

        /** Where it answers false the tape stays at the TOKEN that has the FAULT. */
        boolean readTape() {
            plan.clear();
            part = AT_ROOMS;
            doors = 0;
            tape.rewind();
            boolean whole = readRoom();
            for (int k = 0; k < TAPE_MOST && whole && tape.token != Tape.END; k++) {
                whole = readPart();
            }
            return whole;
        }

        private boolean readPart() {
            if (part == AT_ROOMS && tape.isWord("room")) {
                return readRoom();
            }
            if (part <= AT_DOORS && tape.isWord("door")) {
                part = AT_DOORS;
                return readDoor();
            }
            part = AT_CROWDS;
            return readCrowd();
        }

        private boolean readRoom() {
            if (!readWord("room", plan.rooms < ROOMS_MOST)) {
                return false;
            }
            int seats = tape.value;
            if (!readNumber(0, SEATS_MOST, -1) || !readEnd()) {
                return false;
            }
            plan.seats[plan.rooms] = seats;
            plan.rooms++;
            return true;
        }

        private boolean readDoor() {
            if (!readWord("door", doors < DOORS_MOST)) {
                return false;
            }
            int a = tape.value;
            if (!readNumber(0, plan.rooms - 1, -1)) {
                return false;
            }
            int b = tape.value;
            if (!readNumber(0, plan.rooms - 1, a) || !readEnd()) {
                return false;
            }
            plan.putDoor(a, b, 1);
            doors++;
            return true;
        }

        private boolean readCrowd() {
            if (!readWord("crowd", plan.crowds < CROWDS_MOST)) {
                return false;
            }
            int sort = sortNamed();
            if (sort == 0) {
                return failed(MISPLACED);
            }
            tape.step();
            int at = tape.value;
            if (!readNumber(0, plan.rooms - 1, -1)) {
                return false;
            }
            int heads = tape.value;
            if (!readNumber(1, TOLD_HEADS_MOST, -1) || !readEnd()) {
                return false;
            }
            plan.sort[plan.crowds] = sort;
            plan.at[plan.crowds] = at;
            plan.heads[plan.crowds] = heads;
            plan.crowds++;
            return true;
        }

        private boolean readWord(String word, boolean roomLeft) {
            if (!tape.isWord(word)) {
                return failed(MISPLACED);
            }
            if (!roomLeft) {
                return failed(TOO_MANY);
            }
            tape.step();
            return true;
        }

        private boolean readNumber(int least, int most, int unlike) {
            if (tape.token != Tape.NUMBER) {
                return failed(MISPLACED);
            }
            if (tape.value < least || tape.value > most || tape.value == unlike) {
                return failed(UNTOLD);
            }
            tape.step();
            return true;
        }

        private boolean readEnd() {
            if (tape.token != Tape.SIGN) {
                return failed(MISPLACED);
            }
            tape.step();
            return true;
        }

        private int sortNamed() {
            if (tape.isWord("most")) {
                return MOST;
            }
            if (tape.isWord("like")) {
                return LIKE;
            }
            if (tape.isWord("late")) {
                return LATE;
            }
            if (tape.isWord("stay")) {
                return STAY;
            }
            return tape.isWord("few") ? FEW : 0;
        }

        private boolean failed(int number) {
            faultNumber = number;
            return false;
        }
    }

    /** ROOMS, DOORS and CROWDS as they stand; one without ROOMS is no HOUSE. */
    private static final class House {
        final int[] seats = new int[ROOMS_MOST];
        final int[] seen = new int[ROOMS_MOST];
        /** How many were IN the ROOMS ahead of the latest BELL; not looked at while there was none. */
        final int[] before = new int[ROOMS_MOST];
        final int[] sort = new int[CROWDS_MOST];
        final int[] at = new int[CROWDS_MOST];
        final int[] heads = new int[CROWDS_MOST];
        int rooms;
        int crowds;
        int gone;
        /** Hired heads, who are no CROWD. */
        int guests;
        int guestRoom;
        /** Of use within one BELL alone. */
        private final int[] in = new int[ROOMS_MOST];
        private final int[] alike = new int[ROOMS_MOST];
        private final int[] goals = new int[CROWDS_MOST];

        /** For a plan, in which no BELL rings; the rest is told anew. */
        void clear() {
            rooms = 0;
            crowds = 0;
            for (int r = 0; r < ROOMS_MOST; r++) {
                seen[r] = 0;
            }
        }

        /** Guests are none of it: they are of one foretelling alone. */
        void take(House other) {
            rooms = other.rooms;
            crowds = other.crowds;
            gone = other.gone;
            guests = 0;
            System.arraycopy(other.seats, 0, seats, 0, ROOMS_MOST);
            System.arraycopy(other.seen, 0, seen, 0, ROOMS_MOST);
            System.arraycopy(other.before, 0, before, 0, ROOMS_MOST);
            System.arraycopy(other.sort, 0, sort, 0, CROWDS_MOST);
            System.arraycopy(other.at, 0, at, 0, CROWDS_MOST);
            System.arraycopy(other.heads, 0, heads, 0, CROWDS_MOST);
        }

        boolean isRoom(int room) {
            return room >= 0 && room < rooms;
        }

        boolean isCrowd(int crowd) {
            return crowd >= 0 && crowd < crowds;
        }

        int doorBetween(int a, int b) {
            return (seen[a] >> b) & 1;
        }

        void putDoor(int a, int b, int is) {
            seen[a] = (seen[a] & ~(1 << b)) | (is << b);
            seen[b] = (seen[b] & ~(1 << a)) | (is << a);
        }

        int headsIn(int room) {
            int n = 0;
            for (int c = 0; c < crowds; c++) {
                if (at[c] == room) {
                    n += heads[c];
                }
            }
            return n;
        }

        int allHeads() {
            int n = 0;
            for (int c = 0; c < crowds; c++) {
                n += heads[c];
            }
            return n;
        }

        void addHeads(int set) {
            for (int c = 0; c < crowds; c++) {
                heads[c] += (set >> c) & 1;
            }
        }

        /** Guests would have been there ahead of the latest BELL, too. */
        void hire(int n, int room) {
            guests = n;
            guestRoom = room;
            before[room] += n;
        }

        /** A BELL; the CROWDS (bits) that went. */
        int ring() {
            countHeads();
            for (int c = 0; c < crowds; c++) {
                goals[c] = goalOf(c);
            }
            System.arraycopy(in, 0, before, 0, ROOMS_MOST);
            gone++;
            int went = 0;
            for (int c = 0; c < crowds; c++) {
                if (goals[c] != at[c]) {
                    went |= 1 << c;
                    at[c] = goals[c];
                }
            }
            return went;
        }

        private void countHeads() {
            for (int r = 0; r < ROOMS_MOST; r++) {
                in[r] = 0;
                alike[r] = 0;
            }
            in[guestRoom] += guests;
            for (int c = 0; c < crowds; c++) {
                in[at[c]] += heads[c];
                if (sort[c] == LIKE) {
                    alike[at[c]] += heads[c];
                }
            }
        }

        /** A CROWD's own ROOM is the first that is looked at, as it stays there among equals. */
        private int goalOf(int c) {
            int own = at[c];
            int kind = sort[c];
            if (kind == STAY) {
                return own;
            }
            int[] numbers = kind == LIKE ? alike : kind == LATE && gone > 0 ? before : in;
            int sign = kind == FEW ? -1 : 1;
            int goal = own;
            for (int r = 0; r < rooms; r++) {
                if (((seen[own] >> r) & 1) == 1 && sign * numbers[r] > sign * numbers[goal]) {
                    goal = r;
                }
            }
            return goal;
        }
    }

    /** What was ahead of each ACT that can be undone, the oldest of them overwritten. */
    private static final class Acts {
        /** DOORS, how many were IN; where CROWDS are, their HEADS; BELLS gone. */
        static final int WIDTH = 2 * ROOMS_MOST + 2 * CROWDS_MOST + 1;
        static final int SEEN = 0, BEFORE = ROOMS_MOST, AT = 2 * ROOMS_MOST;
        static final int HEADS = AT + CROWDS_MOST, GONE = HEADS + CROWDS_MOST;

        final int[] kept = new int[ACTS_MOST * WIDTH];
        int held;
        int next;

        void keep(House h) {
            int p = next * WIDTH;
            System.arraycopy(h.seen, 0, kept, p + SEEN, ROOMS_MOST);
            System.arraycopy(h.before, 0, kept, p + BEFORE, ROOMS_MOST);
            System.arraycopy(h.at, 0, kept, p + AT, CROWDS_MOST);
            System.arraycopy(h.heads, 0, kept, p + HEADS, CROWDS_MOST);
            kept[p + GONE] = h.gone;
            next = next + 1 < ACTS_MOST ? next + 1 : 0;
            held = Math.min(held + 1, ACTS_MOST);
        }

        void takeBack(House h) {
            next = next > 0 ? next - 1 : ACTS_MOST - 1;
            held--;
            int p = next * WIDTH;
            System.arraycopy(kept, p + SEEN, h.seen, 0, ROOMS_MOST);
            System.arraycopy(kept, p + BEFORE, h.before, 0, ROOMS_MOST);
            System.arraycopy(kept, p + AT, h.at, 0, CROWDS_MOST);
            System.arraycopy(kept, p + HEADS, h.heads, 0, CROWDS_MOST);
            h.gone = kept[p + GONE];
        }

        void forgetAll() {
            held = 0;
            next = 0;
        }
    }

    /** Rings BELLS in a copy of the HOUSE, so that the HOUSE itself stays. */
    private static final class Future {
        final House now;
        final House copied = new House();
        int hiredHeads;
        int hiredRoom;
        int ways;
        final int[] first = new int[CROWDS_MOST];
        /** By CROWDS: the ROOMS (bits) from which it can come to where it is. */
        private final int[] sources = new int[CROWDS_MOST];

        Future(House now) {
            this.now = now;
        }

        int whereBehind(int crowd, int n) {
            copied.take(now);
            ringTimes(n);
            return copied.at[crowd];
        }

        int headsBehind(int room, int n) {
            copied.take(now);
            ringTimes(n);
            return copied.headsIn(room);
        }

        int worth(int room, int n) {
            copied.take(now);
            int sum = 0;
            for (int k = 0; k < n; k++) {
                copied.ring();
                sum += Math.min(copied.headsIn(room), now.seats[room]);
            }
            return sum;
        }

        int bellsToRest() {
            copied.take(now);
            int still = 0;
            for (int k = 1; k <= AHEAD_MOST + 2; k++) {
                still = copied.ring() == 0 ? still + 1 : 0;
                if (still == 2) {
                    return k - 2;
                }
            }
            return NONE;
        }

        int bellsToRing() {
            copied.take(now);
            for (int k = 1; k <= AHEAD_MOST; k++) {
                copied.ring();
                if (allAsNow()) {
                    return k;
                }
            }
            return NONE;
        }

        /** Leaves what it finds in hiredHeads and hiredRoom. */
        boolean findHired(int room, int n, boolean emptied) {
            for (int guests = 0; guests <= HIRED_MOST; guests++) {
                // Nobody is in no ROOM, which is told as ROOM 0.
                int roomsToTry = guests == 0 ? 1 : now.rooms;
                for (int r = 0; r < roomsToTry; r++) {
                    boolean barred = emptied && guests > 0 && r == room;
                    if (!barred && succeeds(room, n, emptied, guests, r)) {
                        hiredHeads = guests;
                        hiredRoom = r;
                        return true;
                    }
                }
            }
            return false;
        }

        int doorToShut(int a, int b, int n) {
            copied.take(now);
            if (!meet(a, b, n)) {
                return -1;
            }
            for (int low = 0; low < now.rooms; low++) {
                for (int high = low + 1; high < now.rooms; high++) {
                    if (now.doorBetween(low, high) == 1 && partedBy(low, high, a, b, n)) {
                        return 6 * low + high;
                    }
                }
            }
            return NONE;
        }

        /** Leaves what it finds in ways and first. */
        void findBeginnings(int n) {
            ways = 0;
            findSources(n);
            copied.take(now);
            int codes = 1;
            for (int c = 0; c < now.crowds; c++) {
                codes *= now.rooms;
            }
            for (int code = 0; code < codes; code++) {
                if (canBegin(code)) {
                    copied.gone = 0;
                    ringTimes(n);
                    if (allAsNow()) {
                        countWay(code);
                    }
                }
            }
        }

        private void ringTimes(int n) {
            for (int k = 0; k < n; k++) {
                copied.ring();
            }
        }

        private boolean allAsNow() {
            for (int c = 0; c < now.crowds; c++) {
                if (copied.at[c] != now.at[c]) {
                    return false;
                }
            }
            return true;
        }

        private boolean succeeds(int room, int n, boolean emptied, int guests, int guestRoom) {
            copied.take(now);
            copied.hire(guests, guestRoom);
            ringTimes(n);
            for (int c = 0; c < now.crowds; c++) {
                boolean there = copied.at[c] == room;
                if (emptied ? there : !there && now.sort[c] != STAY) {
                    return false;
                }
            }
            return true;
        }

        private boolean partedBy(int low, int high, int a, int b, int n) {
            copied.take(now);
            copied.putDoor(low, high, 0);
            return !meet(a, b, n);
        }

        private boolean meet(int a, int b, int n) {
            for (int k = 0; k < n; k++) {
                copied.ring();
                if (copied.at[a] == copied.at[b]) {
                    return true;
                }
            }
            return false;
        }

        /** A CROWD goes through one DOOR a BELL: what is farther need not be tried, which saves most of the BELLS. */
        private void findSources(int n) {
            for (int c = 0; c < now.crowds; c++) {
                int set = 1 << now.at[c];
                for (int k = 0; k < n && now.sort[c] != STAY; k++) {
                    set |= seenFrom(set);
                }
                sources[c] = set;
            }
        }

        private int seenFrom(int set) {
            int all = 0;
            for (int r = 0; r < now.rooms; r++) {
                if (((set >> r) & 1) == 1) {
                    all |= now.seen[r];
                }
            }
            return all;
        }

        /** Puts the CROWDS where a code tells, whose last figure is the last CROWD's ROOM. */
        private boolean canBegin(int code) {
            int figures = code;
            for (int c = now.crowds - 1; c >= 0 && now.rooms > 0; c--) {
                int room = figures % now.rooms;
                if (((sources[c] >> room) & 1) == 0) {
                    return false;
                }
                copied.at[c] = room;
                figures /= now.rooms;
            }
            return true;
        }

        private void countWay(int code) {
            if (ways == 0) {
                canBegin(code);
                System.arraycopy(copied.at, 0, first, 0, CROWDS_MOST);
            }
            ways++;
        }
    }

    /** SIZE and MARK, asked of a CROWD by its KIND. */
    private static final class Asks {
        static final int ASK_SIZE = 0, ASK_MARK = 1;
        static final int TRACE_MOST = 16;
        /** The longest chain, that of a LIKE one's SIZE, is seven long. */
        static final int DEPTH_MOST = 12;

        final House now;
        final int[] trace = new int[TRACE_MOST];
        int left;

        Asks(House now) {
            this.now = now;
        }

        int askAnew(int crowd, int what) {
            left = 0;
            return answer(crowd, what, 0);
        }

        private int answer(int crowd, int what, int depth) {
            if (depth > DEPTH_MOST) {
                return 0;
            }
            int number = nearestBody(now.sort[crowd], what == ASK_SIZE ? SIZE_BODY : MARK_BODY);
            return runBody(number, crowd, depth + 1);
        }

        private int runBody(int number, int crowd, int depth) {
            if (depth > DEPTH_MOST) {
                return 0;
            }
            leave(number);
            switch (number) {
                case 10: return now.heads[crowd];
                case 11: return runBody(10, crowd, depth + 1) + answer(crowd, ASK_MARK, depth + 1);
                case 12: return -runBody(11, crowd, depth + 1);
                case 13: return runBody(10, crowd, depth + 1) - 100;
                case 14: return 2 * runBody(13, crowd, depth + 1);
                case 20: return crowd;
                case 21: return runBody(20, crowd, depth + 1) + now.at[crowd];
                case 22: return runBody(21, crowd, depth + 1) - 1000;
                case 23: return runBody(20, crowd, depth + 1) - answer(crowd, ASK_SIZE, depth + 1);
                case 24: return 2 * runBody(21, crowd, depth + 1);
                default: return 0;
            }
        }

        private void leave(int number) {
            if (left < TRACE_MOST) {
                trace[left] = number;
                left++;
            }
        }

        private static int nearestBody(int kind, int[] bodies) {
            int k = kind;
            for (int depth = 0; depth < PARENT.length && k > 0 && bodies[k] == 0; depth++) {
                k = PARENT[k];
            }
            return bodies[k];
        }
    }
}

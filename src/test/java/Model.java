import java.util.ArrayDeque;
import java.util.ArrayList;
import java.util.Deque;
import java.util.HashSet;
import java.util.List;
import java.util.Set;
import java.util.regex.Matcher;
import java.util.regex.Pattern;

/**
 * The document told a second time, by lists and copies, without a thought for speed.
 * It shares no line with the program, so that a slip in one of them shows as a difference.
 */
final class Model {
    static final int NONE = -1000000, BAD = -1000001, STATE = -1000002, FULL = -1000003;
    static final List<String> SORTS = List.of("", "most", "like", "late", "stay", "few");

    static final class Crowd {
        String sort;
        int room;
        int heads;

        Crowd(String sort, int room, int heads) {
            this.sort = sort;
            this.room = room;
            this.heads = heads;
        }
    }

    static final class World {
        final List<Integer> seats = new ArrayList<>();
        final Set<Integer> doors = new HashSet<>();
        final List<Crowd> crowds = new ArrayList<>();
        /** IN ahead of each BELL that is gone, the latest last. */
        final List<int[]> history = new ArrayList<>();
        int hired = 0;
        int hiredRoom = 0;

        World twin() {
            World w = new World();
            w.seats.addAll(seats);
            w.doors.addAll(doors);
            for (Crowd c : crowds) {
                w.crowds.add(new Crowd(c.sort, c.room, c.heads));
            }
            w.history.addAll(history);
            w.hired = hired;
            w.hiredRoom = hiredRoom;
            return w;
        }

        static int code(int a, int b) {
            return 6 * Math.min(a, b) + Math.max(a, b);
        }

        int in(int room) {
            int n = hired > 0 && hiredRoom == room ? hired : 0;
            for (Crowd c : crowds) {
                n += c.room == room ? c.heads : 0;
            }
            return n;
        }

        int sortIn(String sort, int room) {
            int n = 0;
            for (Crowd c : crowds) {
                n += c.room == room && c.sort.equals(sort) ? c.heads : 0;
            }
            return n;
        }

        /** Hired heads are added to what history told of the latest BELL, as they would have been there. */
        int inBefore(int room) {
            if (history.isEmpty()) {
                return in(room);
            }
            int n = history.get(history.size() - 1)[room];
            return n;
        }

        void hire(int n, int room) {
            hired = n;
            hiredRoom = room;
            if (!history.isEmpty()) {
                int[] last = history.get(history.size() - 1).clone();
                last[room] += n;
                history.set(history.size() - 1, last);
            }
        }

        int worthTo(Crowd c, int room) {
            switch (c.sort) {
                case "most": return in(room);
                case "few": return -in(room);
                case "like": return sortIn("like", room);
                case "late": return inBefore(room);
                default: return room == c.room ? 1 : 0;
            }
        }

        int ring() {
            List<Integer> goals = new ArrayList<>();
            for (Crowd c : crowds) {
                int top = Integer.MIN_VALUE;
                List<Integer> equal = new ArrayList<>();
                for (int r = 0; r < seats.size(); r++) {
                    if (r != c.room && !doors.contains(code(r, c.room))) {
                        continue;
                    }
                    int w = worthTo(c, r);
                    if (w > top) {
                        top = w;
                        equal.clear();
                    }
                    if (w == top) {
                        equal.add(r);
                    }
                }
                goals.add(equal.contains(c.room) ? c.room : equal.get(0));
            }
            int[] ahead = new int[6];
            for (int r = 0; r < seats.size(); r++) {
                ahead[r] = in(r);
            }
            history.add(ahead);
            int went = 0;
            for (int c = 0; c < crowds.size(); c++) {
                if (crowds.get(c).room != goals.get(c)) {
                    went += 1 << c;
                }
                crowds.get(c).room = goals.get(c);
            }
            return went;
        }

        World behind(int n) {
            World w = twin();
            for (int k = 0; k < n; k++) {
                w.ring();
            }
            return w;
        }

        List<Integer> places() {
            List<Integer> p = new ArrayList<>();
            for (Crowd c : crowds) {
                p.add(c.room);
            }
            return p;
        }
    }

    private final int[][] rows = new int[8][];
    private final int[] lanes = new int[8];
    private final StringBuilder tape = new StringBuilder();
    private World world = null;
    private final World[] images = new World[2];
    private final Deque<World> acts = new ArrayDeque<>();
    private final List<Integer> trace = new ArrayList<>();
    private int fault = 0;
    private int status = 0;

    private int finding(int n) {
        status = n;
        return -1000010 - n;
    }

    private int fine(int answer) {
        status = 0;
        return answer;
    }

    private static boolean between(int n, int low, int high) {
        return low <= n && n <= high;
    }

    int row(int row, int lane, int n) {
        if (!between(row, 0, 7) || !between(lane, 0, 2) || n > 40) {
            return BAD;
        }
        if (n < 0) {
            return finding(4);
        }
        rows[row] = new int[n];
        lanes[row] = lane;
        return fine(n);
    }

    int set(int row, int i, int v) {
        if (!between(row, 0, 7)) {
            return BAD;
        }
        if (rows[row] == null) {
            return finding(1);
        }
        if (!between(i, 0, rows[row].length - 1)) {
            return finding(2);
        }
        int width = 8 << lanes[row];
        int kept = v << 32 - width >> 32 - width;
        rows[row][i] = kept;
        return fine(kept);
    }

    int copy(int a, int i, int b, int j, int n) {
        if (!between(a, 0, 7) || !between(b, 0, 7)) {
            return BAD;
        }
        if (rows[a] == null || rows[b] == null) {
            return finding(1);
        }
        if (lanes[a] != lanes[b]) {
            return finding(5);
        }
        if (n < 0 || i < 0 || j < 0 || (long) i + n > rows[a].length || (long) j + n > rows[b].length) {
            return finding(2);
        }
        int[] part = new int[n];
        for (int k = 0; k < n; k++) {
            part[k] = rows[a][i + k];
        }
        for (int k = 0; k < n; k++) {
            rows[b][j + k] = part[k];
        }
        return fine(n);
    }

    int drop(int row) {
        if (!between(row, 0, 7)) {
            return BAD;
        }
        if (rows[row] == null) {
            return finding(1);
        }
        int n = rows[row].length;
        rows[row] = null;
        return fine(n);
    }

    int feed(long w, int n) {
        if (!between(n, 1, 8)) {
            return BAD;
        }
        if (tape.length() + n > 400) {
            return FULL;
        }
        for (int k = n - 1; k >= 0; k--) {
            tape.append((char) (w >> 8 * k & 255));
        }
        return tape.length();
    }

    private static final class Fault extends Exception {
        private static final long serialVersionUID = 1L;
        final int place;
        final int number;

        Fault(int place, int number) {
            this.place = place;
            this.number = number;
        }
    }

    private List<String> tokens;
    private List<Integer> places;
    private int at;

    private void cut(String text) {
        tokens = new ArrayList<>();
        places = new ArrayList<>();
        at = 0;
        Matcher m = Pattern.compile("[a-z]+|[0-9]+|[^ \\n]", Pattern.DOTALL).matcher(text);
        while (m.find()) {
            tokens.add(m.group());
            places.add(m.start());
        }
        tokens.add("");
        places.add(text.length());
    }

    private String take(String pattern) throws Fault {
        if (!tokens.get(at).matches(pattern)) {
            throw new Fault(places.get(at), 1);
        }
        return tokens.get(at++);
    }

    private int takeNumber(int low, int high) throws Fault {
        int n = Integer.parseInt(take("[0-9]{1,3}"));
        if (!between(n, low, high)) {
            throw new Fault(places.get(at - 1), 2);
        }
        return n;
    }

    private void ifRoom(boolean is) throws Fault {
        if (!is) {
            throw new Fault(places.get(at - 1), 3);
        }
    }

    private World readHouse() throws Fault {
        World w = new World();
        int doors = 0;
        do {
            take("room");
            ifRoom(w.seats.size() < 6);
            w.seats.add(takeNumber(0, 99));
            take(";");
        } while (tokens.get(at).equals("room"));
        while (tokens.get(at).equals("door")) {
            take("door");
            ifRoom(doors < 12);
            int a = takeNumber(0, w.seats.size() - 1);
            int b = takeNumber(0, w.seats.size() - 1);
            if (a == b) {
                throw new Fault(places.get(at - 1), 2);
            }
            take(";");
            w.doors.add(World.code(a, b));
            doors++;
        }
        while (!tokens.get(at).equals("")) {
            take("crowd");
            ifRoom(w.crowds.size() < 5);
            String sort = take("most|few|like|late|stay");
            int room = takeNumber(0, w.seats.size() - 1);
            int heads = takeNumber(1, 50);
            take(";");
            w.crowds.add(new Crowd(sort, room, heads));
        }
        return w;
    }

    int house() {
        cut(tape.toString());
        tape.setLength(0);
        try {
            world = readHouse();
        } catch (Fault f) {
            fault = f.number;
            return -1000100 - f.place;
        }
        acts.clear();
        return world.seats.size();
    }

    int fault() {
        return fault;
    }

    private void act() {
        acts.addLast(world.twin());
        if (acts.size() > 24) {
            acts.removeFirst();
        }
    }

    int bell() {
        if (world == null) {
            return STATE;
        }
        if (world.history.size() == 9999) {
            return FULL;
        }
        act();
        return world.ring();
    }

    int bells(int row, int i, int n) {
        if (world == null) {
            return STATE;
        }
        if (!between(row, 0, 7) || !between(n, 1, 24)) {
            return BAD;
        }
        if (rows[row] == null) {
            return finding(1);
        }
        if (i < 0 || (long) i + n > rows[row].length) {
            return finding(2);
        }
        int[] more = new int[world.crowds.size()];
        for (int k = 0; k < n; k++) {
            int set = rows[row][i + k];
            if (!between(set, 0, (1 << more.length) - 1)) {
                return BAD;
            }
            for (int c = 0; c < more.length; c++) {
                more[c] += set >> c & 1;
            }
        }
        for (int c = 0; c < more.length; c++) {
            if (world.crowds.get(c).heads + more[c] > 99) {
                return FULL;
            }
        }
        if (world.history.size() + n > 9999) {
            return FULL;
        }
        for (int k = 0; k < n; k++) {
            act();
            world.ring();
            for (int c = 0; c < more.length; c++) {
                world.crowds.get(c).heads += rows[row][i + k] >> c & 1;
            }
        }
        return fine(count(5));
    }

    private boolean noRoom(int room) {
        return world == null || !between(room, 0, world.seats.size() - 1);
    }

    private boolean noCrowd(int crowd) {
        return world == null || !between(crowd, 0, world.crowds.size() - 1);
    }

    int door(int a, int b, int is) {
        if (noRoom(a) || noRoom(b) || a == b || !between(is, 0, 1)) {
            return BAD;
        }
        act();
        int code = World.code(a, b);
        boolean was = is == 1 ? !world.doors.add(code) : world.doors.remove(code);
        return was ? 1 : 0;
    }

    int heads(int crowd, int n) {
        if (noCrowd(crowd) || !between(n, 1, 99)) {
            return BAD;
        }
        act();
        int was = world.crowds.get(crowd).heads;
        world.crowds.get(crowd).heads = n;
        return was;
    }

    int undo() {
        if (acts.isEmpty()) {
            return STATE;
        }
        world = acts.removeLast();
        return acts.size();
    }

    int crowd(int crowd, int what) {
        if (noCrowd(crowd) || !between(what, 0, 1)) {
            return BAD;
        }
        Crowd c = world.crowds.get(crowd);
        return what == 0 ? c.room : c.heads;
    }

    int room(int room, int what) {
        if (noRoom(room) || !between(what, 0, 2)) {
            return BAD;
        }
        int seen = 0;
        for (int r = 0; r < world.seats.size(); r++) {
            if (r != room && world.doors.contains(World.code(r, room))) {
                seen |= 1 << r;
            }
        }
        return what == 0 ? world.seats.get(room) : what == 1 ? world.in(room) : seen;
    }

    int ahead(int crowd, int n) {
        if (noCrowd(crowd) || !between(n, 0, 60)) {
            return BAD;
        }
        return world.behind(n).crowds.get(crowd).room;
    }

    int roomAhead(int room, int n, int what) {
        if (noRoom(room) || !between(n, 0, 60) || !between(what, 0, 1)) {
            return BAD;
        }
        if (what == 0) {
            return world.behind(n).in(room);
        }
        int sum = 0;
        for (int k = 1; k <= n; k++) {
            sum += Math.min(world.seats.get(room), world.behind(k).in(room));
        }
        return sum;
    }

    int rest(int what) {
        if (world == null) {
            return STATE;
        }
        if (!between(what, 0, 1)) {
            return BAD;
        }
        for (int k = what; k <= 60; k++) {
            World w = world.behind(k);
            boolean is = what == 0 ? w.ring() == 0 && w.ring() == 0 : w.places().equals(world.places());
            if (is) {
                return k;
            }
        }
        return NONE;
    }

    private boolean allIn(int room, int n, int hired, int hiredRoom) {
        World w = world.twin();
        w.hire(hired, hiredRoom);
        for (Crowd c : w.behind(n).crowds) {
            if (!c.sort.equals("stay") && c.room != room) {
                return false;
            }
        }
        return true;
    }

    private boolean noneIn(int room, int n, int hired, int hiredRoom) {
        World w = world.twin();
        w.hire(hired, hiredRoom);
        return !w.behind(n).places().contains(room);
    }

    int hired(int room, int n, int what) {
        if (noRoom(room) || !between(n, 1, 20) || !between(what, 0, 1)) {
            return BAD;
        }
        for (int h = 0; h <= 60; h++) {
            for (int r = 0; r < world.seats.size(); r++) {
                if (allIn(room, n, h, r)) {
                    return what == 0 ? h : h == 0 ? 0 : r;
                }
            }
        }
        return NONE;
    }

    int empty(int room, int n, int what) {
        if (noRoom(room) || !between(n, 1, 20) || !between(what, 0, 1)) {
            return BAD;
        }
        if (noneIn(room, n, 0, 0)) {
            return 0;
        }
        for (int h = 1; h <= 60; h++) {
            for (int r = 0; r < world.seats.size(); r++) {
                if (r != room && noneIn(room, n, h, r)) {
                    return what == 0 ? h : r;
                }
            }
        }
        return NONE;
    }

    private static boolean meet(World from, int a, int b, int n) {
        World w = from.twin();
        boolean met = false;
        for (int k = 0; k < n; k++) {
            w.ring();
            met |= w.crowds.get(a).room == w.crowds.get(b).room;
        }
        return met;
    }

    int apart(int a, int b, int n) {
        if (noCrowd(a) || noCrowd(b) || a == b || !between(n, 1, 60)) {
            return BAD;
        }
        if (!meet(world, a, b, n)) {
            return -1;
        }
        int least = Integer.MAX_VALUE;
        for (int code : world.doors) {
            World w = world.twin();
            w.doors.remove(code);
            if (!meet(w, a, b, n)) {
                least = Math.min(least, code);
            }
        }
        return least == Integer.MAX_VALUE ? NONE : least;
    }

    private void beginnings(World w, int crowd, int n, List<List<Integer>> found) {
        if (crowd == w.crowds.size()) {
            if (w.behind(n).places().equals(world.places())) {
                found.add(w.places());
            }
            return;
        }
        for (int r = 0; r < w.seats.size(); r++) {
            w.crowds.get(crowd).room = r;
            beginnings(w, crowd + 1, n, found);
        }
    }

    int began(int crowd, int n) {
        if (world == null) {
            return STATE;
        }
        if (crowd != -1 && noCrowd(crowd) || !between(n, 0, 9)) {
            return BAD;
        }
        World w = world.twin();
        w.history.clear();
        List<List<Integer>> found = new ArrayList<>();
        beginnings(w, 0, n, found);
        if (crowd == -1) {
            return found.size();
        }
        return found.isEmpty() ? NONE : found.get(0).get(crowd);
    }

    int image(int k) {
        if (!between(k, 0, 1)) {
            return BAD;
        }
        if (world == null) {
            return STATE;
        }
        images[k] = world.twin();
        return 1;
    }

    int restore(int k) {
        if (!between(k, 0, 1)) {
            return BAD;
        }
        if (images[k] == null) {
            return STATE;
        }
        world = images[k].twin();
        acts.clear();
        return 1;
    }

    int kind(int crowd) {
        return noCrowd(crowd) ? BAD : SORTS.indexOf(world.crowds.get(crowd).sort);
    }

    /** CROWDS as objects of classes that stand for the KINDS: what a BODY is, the language finds. */
    static class Asked {
        final Crowd c;
        final int number;
        final List<Integer> trace;

        Asked(Crowd c, int number, List<Integer> trace) {
            this.c = c;
            this.number = number;
            this.trace = trace;
        }

        int size() {
            trace.add(10);
            return c.heads;
        }

        int mark() {
            trace.add(20);
            return number;
        }
    }

    static class Most extends Asked {
        Most(Crowd c, int number, List<Integer> trace) {
            super(c, number, trace);
        }

        @Override int size() {
            trace.add(11);
            return super.size() + mark();
        }

        @Override int mark() {
            trace.add(21);
            return super.mark() + c.room;
        }
    }

    static final class Like extends Most {
        Like(Crowd c, int number, List<Integer> trace) {
            super(c, number, trace);
        }

        @Override int size() {
            trace.add(12);
            return -super.size();
        }

        @Override int mark() {
            trace.add(24);
            return 2 * super.mark();
        }
    }

    static final class Late extends Most {
        Late(Crowd c, int number, List<Integer> trace) {
            super(c, number, trace);
        }

        @Override int mark() {
            trace.add(22);
            return super.mark() - 1000;
        }
    }

    static class Stay extends Asked {
        Stay(Crowd c, int number, List<Integer> trace) {
            super(c, number, trace);
        }

        @Override int size() {
            trace.add(13);
            return super.size() - 100;
        }

        @Override int mark() {
            trace.add(23);
            return super.mark() - size();
        }
    }

    static final class Few extends Stay {
        Few(Crowd c, int number, List<Integer> trace) {
            super(c, number, trace);
        }

        @Override int size() {
            trace.add(14);
            return 2 * super.size();
        }
    }

    private Asked asked(int crowd) {
        Crowd c = world.crowds.get(crowd);
        switch (c.sort) {
            case "most": return new Most(c, crowd, trace);
            case "like": return new Like(c, crowd, trace);
            case "late": return new Late(c, crowd, trace);
            case "stay": return new Stay(c, crowd, trace);
            default: return new Few(c, crowd, trace);
        }
    }

    int as(int crowd, int kind) {
        if (noCrowd(crowd) || !between(kind, 0, 5)) {
            return BAD;
        }
        Asked a = asked(crowd);
        boolean[] is = {true, a instanceof Most, a instanceof Like, a instanceof Late,
            a instanceof Stay, a instanceof Few};
        return is[kind] ? fine(crowd) : finding(3);
    }

    int ask(int crowd, int what) {
        if (noCrowd(crowd) || !between(what, 0, 1)) {
            return BAD;
        }
        trace.clear();
        Asked a = asked(crowd);
        return what == 0 ? a.size() : a.mark();
    }

    int trace(int i) {
        return between(i, 0, Math.min(16, trace.size()) - 1) ? trace.get(i) : NONE;
    }

    int count(int what) {
        int n = 0;
        switch (what) {
            case 0:
                for (int[] r : rows) {
                    n += r == null ? 0 : 1;
                }
                return n;
            case 1: return world == null ? 0 : world.seats.size();
            case 2: return world == null ? 0 : world.crowds.size();
            case 3: return world == null ? 0 : world.history.size();
            case 4: return acts.size();
            case 5:
                if (world != null) {
                    for (Crowd c : world.crowds) {
                        n += c.heads;
                    }
                }
                return n;
            case 6: return tape.length();
            default: return BAD;
        }
    }

    int status() {
        return status;
    }
}

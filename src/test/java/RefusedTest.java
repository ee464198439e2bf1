import java.util.HashMap;
import java.util.List;
import java.util.Map;
import java.util.function.Supplier;
import java.util.function.ToIntFunction;

/**
 * "What is refused, or found, changes nothing but status()": each refused call is made on one of two objects that
 * were used alike, and all that can be learned of both is compared. So is what is foretold, and what only asks.
 */
public final class RefusedTest {
    private static final int BAD = -1000001, STATE = -1000002, FULL = -1000003;
    private static final int NULL = -1000011, PLACE = -1000012, KIND = -1000013, SIZE = -1000014, STORE = -1000015;
    private static final int MIN = Integer.MIN_VALUE, MAX = Integer.MAX_VALUE;
    private static final String HOUSE = "room 9;room 5;room 20;room 0;room 7;room 3;door 0 1;door 1 2;door 2 3;"
        + "door 3 0;door 3 4;crowd most 0 5;crowd like 1 4;crowd late 2 3;crowd stay 1 8;crowd few 3 2;";

    private final Due due = new Due();
    private final Map<Supplier<MostRooms>, List<Integer>> tales = new HashMap<>();

    private final Supplier<MostRooms> fresh = MostRooms::new;
    private final Supplier<MostRooms> used = () -> used("room 3;");
    private final Supplier<MostRooms> usedNoTape = () -> used("");
    private final Supplier<MostRooms> homeless = RefusedTest::homeless;
    private final Supplier<MostRooms> ended = RefusedTest::ended;

    public static void main(String[] args) {
        RefusedTest t = new RefusedTest();
        t.rowsAreRefused();
        t.copiesAreRefused();
        t.feedsAreRefused();
        t.faultsLeaveAllElse();
        t.bellsAreRefused();
        t.bellsByARowAreRefused();
        t.doorsAndHeadsAreRefused();
        t.lookingIsRefused();
        t.foretellingIsRefused();
        t.imagesAreRefused();
        t.askingIsRefused();
        t.withoutAHouseAllIsRefused();
        t.foretellingChangesNothing();
        t.lookingChangesNothing();
        t.due.end();
    }

    /** ACTS of each kind, both IMAGES, ROWS of each LANE, a FAULT, a TRACE and a FINDING are there. */
    private static MostRooms used(String tape) {
        MostRooms x = new MostRooms();
        Due.read(x, "room 100;");
        Due.read(x, HOUSE);
        x.row(0, 0, 4);
        x.set(0, 0, 1);
        x.set(0, 1, 3);
        x.set(0, 2, 7);
        x.row(1, 1, 40);
        x.set(1, 0, 31);
        x.set(1, 3, 15);
        x.row(2, 2, 4);
        x.set(2, 0, 1);
        x.set(2, 1, 32);
        x.row(3, 0, 3);
        x.set(3, 2, 24);
        x.bell();
        x.image(0);
        x.heads(0, 30);
        x.door(0, 5, 1);
        x.bells(0, 0, 2);
        x.image(1);
        x.heads(1, 98);
        x.bell();
        x.door(3, 4, 0);
        x.ask(2, 0);
        x.set(0, 4, 0);
        Due.feed(x, tape);
        return x;
    }

    private static MostRooms homeless() {
        MostRooms x = new MostRooms();
        Due.read(x, "x");
        x.row(0, 1, 3);
        x.row(5, 2, 30);
        x.row(4, 0, -1);
        Due.feed(x, "room 3;");
        return x;
    }

    /** 9999 BELLS are gone; no ACT can be undone, so that all that can be learned is learned within 512 calls. */
    private static MostRooms ended() {
        MostRooms x = Due.with("room 1;room 1;door 0 1;crowd few 0 1;");
        x.row(0, 0, 24);
        for (int k = 0; k < 416; k++) {
            x.bells(0, 0, 24);
        }
        x.bells(0, 0, 15);
        x.image(0);
        x.restore(0);
        return x;
    }

    private List<Integer> taleOf(Supplier<MostRooms> start) {
        return tales.computeIfAbsent(start, s -> Tale.of(s.get()));
    }

    private void refused(Supplier<MostRooms> start, String call, ToIntFunction<MostRooms> made, int want) {
        due.part("refused: " + call);
        MostRooms x = start.get();
        int finding = -1000010 - want;
        int status = finding >= 1 && finding <= 5 ? finding : x.status();
        int fault = x.fault();
        due.is("it", made.applyAsInt(x), want);
        due.is("status()", x.status(), status);
        due.is("fault()", x.fault(), fault);
        due.is("all else is as it was", Tale.of(x).equals(taleOf(start)) ? 1 : 0, 1);
    }

    private void still(String call, ToIntFunction<MostRooms> made) {
        due.part("changes nothing: " + call);
        MostRooms x = used.get();
        int status = x.status();
        int fault = x.fault();
        due.is("it is no refusal", made.applyAsInt(x) > BAD ? 1 : 0, 1);
        due.is("status()", x.status(), status);
        due.is("fault()", x.fault(), fault);
        due.is("all is as it was", Tale.of(x).equals(taleOf(used)) ? 1 : 0, 1);
    }

    private void rowsAreRefused() {
        for (int row : new int[] {-1, 8, MIN, MAX}) {
            refused(used, "row " + row, x -> x.row(row, 0, 1), BAD);
            refused(used, "set in " + row, x -> x.set(row, 0, 1), BAD);
            refused(used, "drop " + row, x -> x.drop(row), BAD);
        }
        for (int lane : new int[] {-1, 3, MIN, MAX}) {
            refused(used, "row of lane " + lane, x -> x.row(0, lane, 1), BAD);
        }
        for (int n : new int[] {41, MAX}) {
            refused(used, "row of " + n, x -> x.row(0, 0, n), BAD);
        }
        for (int n : new int[] {-1, -40, MIN}) {
            refused(used, "row of " + n, x -> x.row(0, 0, n), SIZE);
            refused(used, "row of " + n + " where one is missing", x -> x.row(7, 0, n), SIZE);
        }
        for (int i : new int[] {-1, 4, 40, MIN, MAX}) {
            refused(used, "set " + i, x -> x.set(0, i, 1), PLACE);
        }
        refused(used, "set of a missing one", x -> x.set(7, 0, 1), NULL);
        refused(used, "drop of a missing one", x -> x.drop(7), NULL);
    }

    private void copiesAreRefused() {
        for (int row : new int[] {-1, 8, MIN, MAX}) {
            refused(used, "copy from " + row, x -> x.copy(row, 0, 0, 0, 1), BAD);
            refused(used, "copy to " + row, x -> x.copy(0, 0, row, 0, 1), BAD);
        }
        refused(used, "copy from a missing one", x -> x.copy(7, 0, 0, 0, 1), NULL);
        refused(used, "copy to a missing one", x -> x.copy(0, 0, 7, 0, 1), NULL);
        refused(used, "copy of bytes to shorts", x -> x.copy(0, 0, 1, 0, 1), STORE);
        refused(used, "copy of ints to bytes", x -> x.copy(2, 0, 0, 0, 1), STORE);
        int[][] wrong = {{-1, 0, 1}, {0, -1, 1}, {0, 0, -1}, {0, 0, 4}, {1, 0, 4}, {0, 1, 3}, {5, 0, 0}, {0, 4, 0},
            {4, 0, 1}, {0, 3, 1}, {MAX, 0, 1}, {0, MAX, 1}, {1, 0, MAX}, {1, 1, MAX}, {MIN, 0, MIN}, {MAX, MAX, MAX}};
        for (int[] w : wrong) {
            refused(used, "copy from " + w[0] + " to " + w[1] + " of " + w[2],
                x -> x.copy(0, w[0], 3, w[1], w[2]), PLACE);
        }
    }

    private void feedsAreRefused() {
        for (int n : new int[] {0, 9, -1, MIN, MAX}) {
            refused(used, "feed of " + n, x -> x.feed(0x3131313131313131L, n), BAD);
        }
        for (int n = 1; n <= 8; n++) {
            int bytes = n;
            Supplier<MostRooms> nearlyFull = () -> used("room 3;" + " ".repeat(394 - bytes));
            refused(nearlyFull, "feed of " + n + " where one less would fit",
                x -> x.feed(0x3131313131313131L, bytes), FULL);
        }
        Supplier<MostRooms> full = () -> used("room 3;" + " ".repeat(393));
        refused(full, "feed of 8 behind 400", x -> x.feed(0x3131313131313131L, 8), FULL);
        refused(full, "feed of 9 behind 400", x -> x.feed(0, 9), BAD);
    }

    private void faultsLeaveAllElse() {
        Object[][] faults = {{"", 0, 1}, {"room 1;room 2;x", 14, 1}, {"room 3;door 0 0;", 14, 2},
            {"room 3;crowd few 0 1;crowd few 0 51;", 33, 2}, {"room 1;".repeat(7), 42, 3}};
        for (Object[] f : faults) {
            due.part("a FAULT: " + f[0]);
            MostRooms x = usedNoTape.get();
            int status = x.status();
            due.is("house()", Due.read(x, (String) f[0]), -1000100 - (Integer) f[1]);
            due.is("fault()", x.fault(), (Integer) f[2]);
            due.is("status()", x.status(), status);
            due.is("the tape is empty", x.count(6), 0);
            due.is("all else is as it was", Tale.of(x).equals(taleOf(usedNoTape)) ? 1 : 0, 1);
        }
    }

    private void bellsAreRefused() {
        refused(homeless, "bell without a HOUSE", MostRooms::bell, STATE);
        refused(ended, "bell 10000", MostRooms::bell, FULL);
        refused(ended, "bells, 10000", x -> x.bells(0, 0, 1), FULL);
        refused(ended, "undo, none can be undone", MostRooms::undo, STATE);
        Supplier<MostRooms> undone = () -> {
            MostRooms x = used("");
            while (x.undo() > 0) {
                continue;
            }
            return x;
        };
        refused(undone, "undo, all are undone", MostRooms::undo, STATE);
        refused(homeless, "undo without a HOUSE", MostRooms::undo, STATE);
    }

    private void bellsByARowAreRefused() {
        refused(homeless, "bells without a HOUSE", x -> x.bells(0, 0, 1), STATE);
        refused(homeless, "bells of no such ROW without a HOUSE", x -> x.bells(8, 0, 25), STATE);
        refused(homeless, "bells of a missing ROW without a HOUSE", x -> x.bells(7, 0, 1), STATE);
        for (int row : new int[] {-1, 8, MIN, MAX}) {
            refused(used, "bells by " + row, x -> x.bells(row, 0, 1), BAD);
        }
        for (int n : new int[] {0, 25, -1, MIN, MAX}) {
            refused(used, "bells, " + n, x -> x.bells(1, 0, n), BAD);
            refused(used, "bells by a missing one, " + n, x -> x.bells(7, 0, n), BAD);
        }
        refused(used, "bells by a missing one", x -> x.bells(7, 0, 1), NULL);
        refused(used, "bells by a missing one, no such place", x -> x.bells(7, -1, 1), NULL);
        for (int i : new int[] {-1, 4, 40, MIN, MAX}) {
            refused(used, "bells from " + i, x -> x.bells(0, i, 1), PLACE);
        }
        refused(used, "bells, one ITEM beyond", x -> x.bells(0, 3, 2), PLACE);
        refused(used, "bells, one ITEM beyond, one no set", x -> x.bells(2, 1, 4), PLACE);
        refused(used, "bells, the second ITEM is no set", x -> x.bells(2, 0, 2), BAD);
        Supplier<MostRooms> many = () -> {
            MostRooms x = used("");
            x.heads(0, 97);
            return x;
        };
        refused(many, "bells, 100 HEADS at the third", x -> x.bells(0, 0, 3), FULL);
        refused(many, "bells, an ITEM that is no set ahead of 100 HEADS", x -> {
            x.set(0, 3, 32);
            int answer = x.bells(0, 0, 4);
            x.set(0, 3, 0);
            x.set(0, 4, 0);
            return answer;
        }, BAD);
    }

    private void doorsAndHeadsAreRefused() {
        for (int room : new int[] {-1, 6, MIN, MAX}) {
            refused(used, "door from " + room, x -> x.door(room, 0, 1), BAD);
            refused(used, "door to " + room, x -> x.door(0, room, 1), BAD);
            refused(used, "door from and to " + room, x -> x.door(room, room, 0), BAD);
        }
        for (int is : new int[] {-1, 2, MIN, MAX}) {
            refused(used, "door, " + is, x -> x.door(0, 2, is), BAD);
        }
        refused(used, "door alike", x -> x.door(2, 2, 1), BAD);
        refused(used, "door alike", x -> x.door(5, 5, 0), BAD);
        for (int crowd : new int[] {-1, 5, MIN, MAX}) {
            refused(used, "heads of " + crowd, x -> x.heads(crowd, 3), BAD);
        }
        for (int n : new int[] {0, 100, -1, MIN, MAX}) {
            refused(used, "heads, " + n, x -> x.heads(0, n), BAD);
        }
    }

    private void lookingIsRefused() {
        for (int crowd : new int[] {-1, 5, MIN, MAX}) {
            refused(used, "crowd " + crowd, x -> x.crowd(crowd, 0), BAD);
            refused(used, "kind of " + crowd, x -> x.kind(crowd), BAD);
        }
        for (int room : new int[] {-1, 6, MIN, MAX}) {
            refused(used, "room " + room, x -> x.room(room, 0), BAD);
        }
        for (int what : new int[] {-1, 7, MIN, MAX}) {
            refused(used, "crowd, what " + what, x -> x.crowd(0, what), BAD);
            refused(used, "room, what " + what, x -> x.room(0, what), BAD);
            refused(used, "count " + what, x -> x.count(what), BAD);
        }
        refused(used, "crowd, what 2", x -> x.crowd(0, 2), BAD);
        refused(used, "room, what 3", x -> x.room(0, 3), BAD);
    }

    private void foretellingIsRefused() {
        for (int room : new int[] {-1, 6, MIN, MAX}) {
            refused(used, "roomAhead " + room, x -> x.roomAhead(room, 1, 0), BAD);
            refused(used, "hired " + room, x -> x.hired(room, 1, 0), BAD);
            refused(used, "empty " + room, x -> x.empty(room, 1, 0), BAD);
        }
        for (int crowd : new int[] {-1, 5, MIN, MAX}) {
            refused(used, "ahead " + crowd, x -> x.ahead(crowd, 1), BAD);
            refused(used, "apart " + crowd, x -> x.apart(crowd, 0, 1), BAD);
            refused(used, "apart from " + crowd, x -> x.apart(0, crowd, 1), BAD);
        }
        for (int crowd : new int[] {-2, 5, MIN, MAX}) {
            refused(used, "began " + crowd, x -> x.began(crowd, 1), BAD);
        }
        for (int n : new int[] {-1, 61, MIN, MAX}) {
            refused(used, "ahead by " + n, x -> x.ahead(0, n), BAD);
            refused(used, "roomAhead by " + n, x -> x.roomAhead(0, n, 0), BAD);
            refused(used, "worth over " + n, x -> x.roomAhead(0, n, 1), BAD);
            refused(used, "apart over " + n, x -> x.apart(0, 1, n), BAD);
        }
        for (int n : new int[] {-1, 0, 21, 60, MIN, MAX}) {
            refused(used, "hired, behind " + n, x -> x.hired(0, n, 0), BAD);
            refused(used, "empty, behind " + n, x -> x.empty(0, n, 0), BAD);
        }
        for (int n : new int[] {-1, 10, MIN, MAX}) {
            refused(used, "began by " + n, x -> x.began(-1, n), BAD);
        }
        for (int what : new int[] {-1, 2, MIN, MAX}) {
            refused(used, "roomAhead, what " + what, x -> x.roomAhead(0, 1, what), BAD);
            refused(used, "rest, what " + what, x -> x.rest(what), BAD);
            refused(used, "hired, what " + what, x -> x.hired(0, 1, what), BAD);
            refused(used, "empty, what " + what, x -> x.empty(0, 1, what), BAD);
        }
        refused(used, "apart over 0", x -> x.apart(0, 1, 0), BAD);
        refused(used, "apart from itself", x -> x.apart(2, 2, 1), BAD);
    }

    private void imagesAreRefused() {
        for (int k : new int[] {-1, 2, MIN, MAX}) {
            refused(used, "image " + k, x -> x.image(k), BAD);
            refused(used, "restore " + k, x -> x.restore(k), BAD);
            refused(homeless, "image " + k + " without a HOUSE", x -> x.image(k), BAD);
            refused(homeless, "restore " + k + " without a HOUSE", x -> x.restore(k), BAD);
        }
        for (int k : new int[] {0, 1}) {
            refused(homeless, "image " + k + " without a HOUSE", x -> x.image(k), STATE);
            refused(homeless, "restore " + k + " without an IMAGE", x -> x.restore(k), STATE);
        }
        refused(ended, "restore 1, where 0 was kept alone", x -> x.restore(1), STATE);
    }

    private void askingIsRefused() {
        for (int crowd : new int[] {-1, 5, MIN, MAX}) {
            refused(used, "as, crowd " + crowd, x -> x.as(crowd, 0), BAD);
            refused(used, "ask of " + crowd, x -> x.ask(crowd, 0), BAD);
        }
        for (int kind : new int[] {-1, 6, MIN, MAX}) {
            refused(used, "as, kind " + kind, x -> x.as(0, kind), BAD);
        }
        for (int what : new int[] {-1, 2, MIN, MAX}) {
            refused(used, "ask, what " + what, x -> x.ask(0, what), BAD);
        }
        refused(used, "as, a MOST one as LIKE", x -> x.as(0, 2), KIND);
        refused(used, "as, a STAY one as FEW", x -> x.as(3, 5), KIND);
    }

    private void withoutAHouseAllIsRefused() {
        for (Supplier<MostRooms> start : List.of(fresh, homeless)) {
            refused(start, "bell", MostRooms::bell, STATE);
            refused(start, "bells", x -> x.bells(0, 0, 1), STATE);
            refused(start, "door", x -> x.door(0, 1, 1), BAD);
            refused(start, "heads", x -> x.heads(0, 1), BAD);
            refused(start, "undo", MostRooms::undo, STATE);
            refused(start, "crowd", x -> x.crowd(0, 0), BAD);
            refused(start, "room", x -> x.room(0, 0), BAD);
            refused(start, "ahead", x -> x.ahead(0, 0), BAD);
            refused(start, "roomAhead", x -> x.roomAhead(0, 0, 0), BAD);
            refused(start, "rest", x -> x.rest(0), STATE);
            refused(start, "ring", x -> x.rest(1), STATE);
            refused(start, "rest, what 2", x -> x.rest(2), STATE);
            refused(start, "hired", x -> x.hired(0, 1, 0), BAD);
            refused(start, "empty", x -> x.empty(0, 1, 0), BAD);
            refused(start, "apart", x -> x.apart(0, 1, 1), BAD);
            refused(start, "began", x -> x.began(-1, 0), STATE);
            refused(start, "began, a CROWD", x -> x.began(0, 0), STATE);
            refused(start, "began, by 10", x -> x.began(-2, 10), STATE);
            refused(start, "kind", x -> x.kind(0), BAD);
            refused(start, "as", x -> x.as(0, 0), BAD);
            refused(start, "ask", x -> x.ask(0, 0), BAD);
        }
    }

    private void foretellingChangesNothing() {
        for (int n : new int[] {0, 1, 60}) {
            still("ahead by " + n, x -> x.ahead(0, n));
            still("roomAhead by " + n, x -> x.roomAhead(1, n, 0));
            still("worth over " + n, x -> x.roomAhead(1, n, 1));
        }
        for (int what = 0; what <= 1; what++) {
            int w = what;
            still("rest " + what, x -> x.rest(w));
            for (int n : new int[] {1, 20}) {
                still("hired behind " + n, x -> x.hired(5, n, w));
                still("empty behind " + n, x -> x.empty(1, n, w));
            }
        }
        for (int n : new int[] {1, 60}) {
            still("apart over " + n, x -> x.apart(0, 3, n));
            still("apart over " + n, x -> x.apart(1, 4, n));
        }
        for (int n : new int[] {0, 1, 9}) {
            still("began by " + n, x -> x.began(-1, n));
            still("began by " + n, x -> x.began(2, n));
        }
    }

    private void lookingChangesNothing() {
        for (int what = 0; what <= 6; what++) {
            int w = what;
            still("count " + what, x -> x.count(w));
        }
        for (int what = 0; what <= 2; what++) {
            int w = what;
            still("room " + what, x -> x.room(5, w));
        }
        still("crowd 0", x -> x.crowd(4, 0));
        still("crowd 1", x -> x.crowd(4, 1));
        still("kind", x -> x.kind(4));
        still("fault", MostRooms::fault);
        still("status", MostRooms::status);
        for (int i : new int[] {-1, 0, 5, 6, 15, 16, MIN, MAX}) {
            still("trace " + i, x -> x.trace(i));
        }
    }
}

/** Promises 1 to 5: each sentence of the document on ROWS that names a boundary, by a test of its own. */
public final class RowEdgesTest {
    private static final int BAD = -1000001, STATE = -1000002;
    private static final int NULL = -1000011, PLACE = -1000012, SIZE = -1000014, STORE = -1000015;
    private static final int MIN = Integer.MIN_VALUE, MAX = Integer.MAX_VALUE;
    private static final int[] NO_ROWS = {-1, 8, MIN, MAX};

    private final Due due = new Due();

    public static void main(String[] args) {
        RowEdgesTest t = new RowEdgesTest();
        t.aNewObjectHasNoHouse();
        t.rowsAreMissingAtFirst();
        t.rowsAreEight();
        t.lanesAreThree();
        t.itemsAreFortyAtMost();
        t.fewerThanNoneIsSize();
        t.itemsAreNoughtAtFirst();
        t.aRowStandsInPlaceOfWhatIsThere();
        t.bytesWrapAround();
        t.shortsWrapAround();
        t.intsTakeAll();
        t.anItemIsWhatSetAnswered();
        t.placesGoFromNought();
        t.noneIsCopied();
        t.allAreCopied();
        t.itemsAreCopiedAsTheyWere();
        t.copiesBeyondAnEndHaveNoPlace();
        t.copiesOfTwoLanesHaveNoStore();
        t.findingsOfACopyAreTheFirstInTime();
        t.aDroppedRowIsMissing();
        t.due.end();
    }

    private void is(String call, long got, long want) {
        due.is(call, got, want);
    }

    private void aNewObjectHasNoHouse() {
        due.part("MostRooms(): No HOUSE");
        MostRooms x = new MostRooms();
        is("count(1)", x.count(1), 0);
        is("count(2)", x.count(2), 0);
        is("bell()", x.bell(), STATE);
        is("rest(0)", x.rest(0), STATE);
        is("image(0)", x.image(0), STATE);
        is("room(0, 0)", x.room(0, 0), BAD);
        is("crowd(0, 0)", x.crowd(0, 0), BAD);
    }

    private void rowsAreMissingAtFirst() {
        due.part("ROWS 0 .. 7 are missing (at first)");
        MostRooms x = new MostRooms();
        for (int row = 0; row < 8; row++) {
            is("set(" + row + ", 0, 0)", x.set(row, 0, 0), NULL);
            is("drop(" + row + ")", x.drop(row), NULL);
            is("copy(" + row + ", ..)", x.copy(row, 0, row, 0, 0), NULL);
        }
        is("count(0)", x.count(0), 0);
    }

    private void rowsAreEight() {
        due.part("ROWS 0 .. 7; BAD: ROW");
        MostRooms x = new MostRooms();
        for (int row = 0; row < 8; row++) {
            is("row(" + row + ", 0, 2)", x.row(row, 0, 2), 2);
            is("count(0)", x.count(0), row + 1);
        }
        for (int row : NO_ROWS) {
            is("row(" + row + ", 0, 1)", x.row(row, 0, 1), BAD);
            is("row(" + row + ", 0, -1): BAD ahead of SIZE", x.row(row, 0, -1), BAD);
            is("set(" + row + ", 0, 0)", x.set(row, 0, 0), BAD);
            is("set(" + row + ", -1, 0): BAD ahead of PLACE", x.set(row, -1, 0), BAD);
            is("copy(" + row + ", 0, 0, 0, 1)", x.copy(row, 0, 0, 0, 1), BAD);
            is("copy(0, 0, " + row + ", 0, 1)", x.copy(0, 0, row, 0, 1), BAD);
            is("drop(" + row + ")", x.drop(row), BAD);
        }
        for (int row = 0; row < 8; row++) {
            is("set(" + row + ", 1, " + row + ")", x.set(row, 1, row), row);
        }
        is("copy(7, 0, 0, 0, 2)", x.copy(7, 0, 0, 0, 2), 2);
        is("copy(0, 0, 7, 0, 2)", x.copy(0, 0, 7, 0, 2), 2);
        is("drop(0)", x.drop(0), 2);
        is("drop(7)", x.drop(7), 2);
        is("count(0)", x.count(0), 6);
    }

    private void lanesAreThree() {
        due.part("a LANE (0 bytes, 1 shorts, 2 ints); BAD: LANE");
        MostRooms x = new MostRooms();
        int[] lowest = {112, 4464, 70000};
        for (int lane = 0; lane <= 2; lane++) {
            is("row(0, " + lane + ", 1)", x.row(0, lane, 1), 1);
            is("set(0, 0, 70000) of lane " + lane, x.set(0, 0, 70000), lowest[lane]);
        }
        for (int lane : new int[] {-1, 3, MIN, MAX}) {
            is("row(0, " + lane + ", 1)", x.row(0, lane, 1), BAD);
            is("row(0, " + lane + ", -1): BAD ahead of SIZE", x.row(0, lane, -1), BAD);
        }
        is("set(0, 0, 70000): the ROW stayed", x.set(0, 0, 70000), 70000);
    }

    private void itemsAreFortyAtMost() {
        due.part("0 to 40 ITEMS; BAD: n above 40");
        MostRooms x = new MostRooms();
        for (int lane = 0; lane <= 2; lane++) {
            is("row(1, " + lane + ", 40)", x.row(1, lane, 40), 40);
            is("set(1, 39, 9)", x.set(1, 39, 9), 9);
            is("set(1, 40, 9)", x.set(1, 40, 9), PLACE);
            is("row(1, " + lane + ", 41)", x.row(1, lane, 41), BAD);
            is("row(1, " + lane + ", MAX)", x.row(1, lane, MAX), BAD);
            is("row(1, " + lane + ", 0)", x.row(1, lane, 0), 0);
            is("set(1, 0, 9): one without ITEMS", x.set(1, 0, 9), PLACE);
            is("row(1, " + lane + ", 1)", x.row(1, lane, 1), 1);
            is("set(1, 0, 9)", x.set(1, 0, 9), 9);
            is("set(1, 1, 9)", x.set(1, 1, 9), PLACE);
        }
        is("count(0)", x.count(0), 1);
    }

    private void fewerThanNoneIsSize() {
        due.part("4 SIZE (fewer than none)");
        MostRooms x = new MostRooms();
        is("row(0, 0, 0): none is not fewer", x.row(0, 0, 0), 0);
        is("status()", x.status(), 0);
        is("row(1, 0, -1)", x.row(1, 0, -1), SIZE);
        is("status()", x.status(), 4);
        is("row(1, 2, -41)", x.row(1, 2, -41), SIZE);
        is("row(1, 2, MIN)", x.row(1, 2, MIN), SIZE);
        is("count(0)", x.count(0), 1);
        is("drop(1): it is missing yet", x.drop(1), NULL);
    }

    /** Rings n BELLS by a ROW; how many HEADS came by its ITEMS. */
    private static int headsBy(MostRooms x, int row, int i, int n) {
        int before = x.count(5);
        int after = x.bells(row, i, n);
        return after < 0 ? after : after - before;
    }

    private void itemsAreNoughtAtFirst() {
        due.part("ITEMS, 0 at first");
        MostRooms x = Due.with("room 1;crowd stay 0 1;");
        for (int lane = 0; lane <= 2; lane++) {
            x.row(0, lane, 40);
            is("the first 24", headsBy(x, 0, 0, 24), 0);
            is("the last 24", headsBy(x, 0, 16, 24), 0);
            x.set(0, 0, 1);
            x.set(0, 39, 1);
            is("row(0, lane, 40) anew", x.row(0, lane, 40), 40);
            is("the first 24", headsBy(x, 0, 0, 24), 0);
            is("the last 24", headsBy(x, 0, 16, 24), 0);
        }
        x.set(0, 2, 1);
        x.row(0, 0, 2);
        x.row(0, 0, 3);
        is("one that was beyond the end for a while", headsBy(x, 0, 0, 3), 0);
        x.set(0, 2, 1);
        x.drop(0);
        x.row(0, 0, 3);
        is("of one that was dropped", headsBy(x, 0, 0, 3), 0);
    }

    private void aRowStandsInPlaceOfWhatIsThere() {
        due.part("A ROW of a LANE with n ITEMS, in place of what is there: n");
        MostRooms x = new MostRooms();
        is("row(4, 2, 30)", x.row(4, 2, 30), 30);
        is("row(4, 0, 3)", x.row(4, 0, 3), 3);
        is("count(0)", x.count(0), 1);
        is("set(4, 2, 200): its LANE", x.set(4, 2, 200), -56);
        is("set(4, 3, 1): its end", x.set(4, 3, 1), PLACE);
        is("row(4, 2, 30)", x.row(4, 2, 30), 30);
        is("set(4, 29, 200)", x.set(4, 29, 200), 200);
        is("drop(4)", x.drop(4), 30);
        is("count(0)", x.count(0), 0);
    }

    private void wraps(int lane, int[][] pairs) {
        MostRooms x = new MostRooms();
        x.row(0, lane, 1);
        for (int[] p : pairs) {
            is("set(0, 0, " + p[0] + ")", x.set(0, 0, p[0]), p[1]);
        }
    }

    private void bytesWrapAround() {
        due.part("its lowest bits, as many as the LANE has (read with their sign): bytes");
        wraps(0, new int[][] {{0, 0}, {127, 127}, {128, -128}, {-128, -128}, {-129, 127}, {255, -1}, {256, 0},
            {-1, -1}, {-256, 0}, {-257, -1}, {32767, -1}, {32768, 0}, {MAX, -1}, {MIN, 0}});
    }

    private void shortsWrapAround() {
        due.part("its lowest bits, as many as the LANE has (read with their sign): shorts");
        wraps(1, new int[][] {{0, 0}, {128, 128}, {32767, 32767}, {32768, -32768}, {-32768, -32768},
            {-32769, 32767}, {65535, -1}, {65536, 0}, {-1, -1}, {-65536, 0}, {-65537, -1}, {MAX, -1}, {MIN, 0}});
    }

    private void intsTakeAll() {
        due.part("its lowest bits, as many as the LANE has (read with their sign): ints");
        wraps(2, new int[][] {{0, 0}, {128, 128}, {32768, 32768}, {65536, 65536}, {-1, -1}, {MAX, MAX}, {MIN, MIN}});
    }

    private void anItemIsWhatSetAnswered() {
        due.part("ITEM i becomes v, its lowest bits: what it is then");
        MostRooms x = Due.with("room 1;crowd stay 0 1;crowd stay 0 1;");
        x.row(0, 0, 3);
        x.row(1, 1, 3);
        is("set(0, 1, 257)", x.set(0, 1, 257), 1);
        is("it is 1", headsBy(x, 0, 1, 1), 1);
        is("set(1, 2, 65539)", x.set(1, 2, 65539), 3);
        is("it is 3", headsBy(x, 1, 2, 1), 2);
        is("the others are 0", headsBy(x, 0, 0, 3) + headsBy(x, 1, 0, 3), 3);
        is("set(0, 1, 256)", x.set(0, 1, 256), 0);
        is("it is 0", headsBy(x, 0, 0, 3), 0);
        is("set(0, 0, 128)", x.set(0, 0, 128), -128);
        is("it is no set", headsBy(x, 0, 0, 1), BAD);
    }

    private void placesGoFromNought() {
        due.part("set: NULL; PLACE (no such place of a ROW)");
        MostRooms x = new MostRooms();
        x.row(0, 1, 7);
        is("set(0, 0, 5)", x.set(0, 0, 5), 5);
        is("set(0, 6, 5)", x.set(0, 6, 5), 5);
        for (int i : new int[] {-1, 7, 40, MIN, MAX}) {
            is("set(0, " + i + ", 5)", x.set(0, i, 5), PLACE);
            is("set(1, " + i + ", 5): NULL ahead of PLACE", x.set(1, i, 5), NULL);
        }
    }

    private void noneIsCopied() {
        due.part("copy: n ITEMS, none");
        MostRooms x = new MostRooms();
        x.row(0, 0, 3);
        x.row(1, 0, 0);
        is("from the start to the start", x.copy(0, 0, 0, 0, 0), 0);
        is("from the end to the end", x.copy(0, 3, 0, 3, 0), 0);
        is("from one without ITEMS", x.copy(1, 0, 0, 3, 0), 0);
        is("to one without ITEMS", x.copy(0, 3, 1, 0, 0), 0);
        is("status()", x.status(), 0);
        is("from beyond the end", x.copy(0, 4, 0, 0, 0), PLACE);
        is("to beyond the end", x.copy(0, 0, 0, 4, 0), PLACE);
        is("from beyond one without ITEMS", x.copy(1, 1, 0, 0, 0), PLACE);
        is("from below none", x.copy(0, -1, 0, 0, 0), PLACE);
        is("to below none", x.copy(0, 0, 0, -1, 0), PLACE);
        is("one of one without ITEMS", x.copy(1, 0, 0, 0, 1), PLACE);
    }

    private void allAreCopied() {
        due.part("copy: n ITEMS, forty");
        for (int lane = 0; lane <= 2; lane++) {
            MostRooms x = Due.with("room 1;crowd stay 0 1;crowd stay 0 1;");
            x.row(0, lane, 40);
            x.row(1, lane, 40);
            x.set(0, 0, 1);
            x.set(0, 39, 3);
            is("copy(0, 0, 1, 0, 40)", x.copy(0, 0, 1, 0, 40), 40);
            is("its first", headsBy(x, 1, 0, 1), 1);
            is("its others", headsBy(x, 1, 1, 24) + headsBy(x, 1, 25, 14), 0);
            is("its last", headsBy(x, 1, 39, 1), 2);
            is("what it was copied from", headsBy(x, 0, 39, 1), 2);
            is("copy(1, 0, 1, 0, 40): onto itself", x.copy(1, 0, 1, 0, 40), 40);
            is("its first", headsBy(x, 1, 0, 1), 1);
            is("its last", headsBy(x, 1, 39, 1), 2);
            is("copy(1, 39, 1, 0, 1): the last alone", x.copy(1, 39, 1, 0, 1), 1);
            is("its first", headsBy(x, 1, 0, 1), 2);
            is("its second", headsBy(x, 1, 1, 1), 0);
        }
    }

    private void itemsAreCopiedAsTheyWere() {
        due.part("copy: as they were ahead");
        MostRooms x = Due.with("room 1;crowd stay 0 1;crowd stay 0 1;crowd stay 0 1;");
        int[] items = {1, 3, 7, 0};
        int[] heads = {1, 2, 3, 0};
        x.row(0, 2, 4);
        for (int i = 0; i < 4; i++) {
            x.set(0, i, items[i]);
        }
        is("copy(0, 0, 0, 1, 3)", x.copy(0, 0, 0, 1, 3), 3);
        is("item 0", headsBy(x, 0, 0, 1), 1);
        for (int i = 1; i < 4; i++) {
            is("item " + i + ", one further", headsBy(x, 0, i, 1), heads[i - 1]);
            x.set(0, i - 1, items[i - 1]);
        }
        x.set(0, 3, items[3]);
        is("copy(0, 1, 0, 0, 3)", x.copy(0, 1, 0, 0, 3), 3);
        for (int i = 0; i < 3; i++) {
            is("item " + i + ", one back", headsBy(x, 0, i, 1), heads[i + 1]);
        }
        is("item 3", headsBy(x, 0, 3, 1), heads[3]);
    }

    private void copiesBeyondAnEndHaveNoPlace() {
        due.part("copy: PLACE (i, j, n below 0, or beyond an end)");
        MostRooms x = new MostRooms();
        x.row(0, 0, 5);
        x.row(1, 0, 3);
        is("the most that fits", x.copy(0, 2, 1, 0, 3), 3);
        is("the most that fits, back", x.copy(1, 0, 0, 2, 3), 3);
        int[][] wrong = {{-1, 0, 1}, {0, -1, 1}, {0, 0, -1}, {3, 0, 3}, {0, 1, 3}, {0, 0, 4}, {5, 0, 1}, {0, 3, 1},
            {6, 0, 0}, {0, 4, 0}, {6, 0, -1}, {-1, -1, 2}, {MAX, 0, 0}, {0, MAX, 0}, {0, 0, MAX}, {MAX, 0, 1},
            {0, MAX, 1}, {1, 1, MAX}, {MAX, MAX, MAX}, {MIN, 0, 0}, {0, MIN, 0}, {0, 0, MIN}, {MIN, MIN, MIN},
            {MAX, MAX, 2}, {MIN, 0, MAX}, {3, 2, MAX - 1}};
        for (int[] w : wrong) {
            is("copy(0, " + w[0] + ", 1, " + w[1] + ", " + w[2] + ")", x.copy(0, w[0], 1, w[1], w[2]), PLACE);
            is("status()", x.status(), 2);
        }
    }

    private void copiesOfTwoLanesHaveNoStore() {
        due.part("copy: STORE (ROWS of two LANES)");
        MostRooms x = new MostRooms();
        for (int row = 0; row < 6; row++) {
            x.row(row, row % 3, 2);
        }
        for (int a = 0; a < 6; a++) {
            for (int b = 0; b < 6; b++) {
                boolean alike = a % 3 == b % 3;
                is("copy(" + a + ", 0, " + b + ", 0, 2)", x.copy(a, 0, b, 0, 2), alike ? 2 : STORE);
                is("status()", x.status(), alike ? 0 : 5);
            }
        }
        is("none of two LANES", x.copy(0, 0, 1, 0, 0), STORE);
    }

    private void findingsOfACopyAreTheFirstInTime() {
        due.part("copy: BAD: ROWS; NULL; STORE; PLACE: of several the first");
        MostRooms x = new MostRooms();
        x.row(0, 0, 3);
        x.row(1, 1, 3);
        is("BAD ahead of NULL", x.copy(5, 0, 8, 0, 1), BAD);
        is("BAD ahead of NULL", x.copy(-1, 0, 5, 0, 1), BAD);
        is("BAD ahead of STORE", x.copy(0, 0, 8, 0, 1), BAD);
        is("BAD ahead of PLACE", x.copy(8, -1, 0, 0, 1), BAD);
        is("NULL ahead of PLACE", x.copy(0, -1, 5, 0, 1), NULL);
        is("NULL ahead of PLACE", x.copy(5, 0, 0, 0, -1), NULL);
        is("NULL of two", x.copy(5, 0, 6, 0, 1), NULL);
        is("STORE ahead of PLACE", x.copy(0, -1, 1, 0, 1), STORE);
        is("STORE ahead of PLACE", x.copy(1, 0, 0, 4, 1), STORE);
        is("STORE ahead of PLACE", x.copy(1, 0, 0, 0, -1), STORE);
    }

    private void aDroppedRowIsMissing() {
        due.part("drop: A ROW is missing from now on: how many ITEMS it had. BAD; NULL");
        MostRooms x = new MostRooms();
        x.row(0, 0, 0);
        x.row(1, 1, 1);
        x.row(7, 2, 40);
        is("drop(7)", x.drop(7), 40);
        is("drop(0)", x.drop(0), 0);
        is("count(0)", x.count(0), 1);
        is("drop(7) again", x.drop(7), NULL);
        is("drop(0) again", x.drop(0), NULL);
        is("set(7, 0, 1)", x.set(7, 0, 1), NULL);
        is("copy(7, 0, 1, 0, 1)", x.copy(7, 0, 1, 0, 1), NULL);
        is("copy(1, 0, 7, 0, 1)", x.copy(1, 0, 7, 0, 1), NULL);
        is("drop(1): the others stay", x.drop(1), 1);
        is("row(7, 0, 2): it can be made again", x.row(7, 0, 2), 2);
        is("drop(7)", x.drop(7), 2);
    }
}

/** Promises 25 to 30: each sentence of the document on KINDS, ASKS, counts and status() that names a boundary. */
public final class AskedEdgesTest {
    private static final int NONE = -1000000, BAD = -1000001, STATE = -1000002, FULL = -1000003;
    private static final int NULL = -1000011, PLACE = -1000012, KIND = -1000013, SIZE = -1000014, STORE = -1000015;
    private static final int MIN = Integer.MIN_VALUE, MAX = Integer.MAX_VALUE;
    private static final String SIX = "room 1;".repeat(6);
    /** A CROWD of each KIND, in the order of the KINDS. */
    private static final String FIVE = SIX
        + "crowd most 5 50;crowd like 4 1;crowd late 3 2;crowd stay 2 50;crowd few 1 3;";

    private final Due due = new Due();

    public static void main(String[] args) {
        AskedEdgesTest t = new AskedEdgesTest();
        t.kindsAreToldOneToFive();
        t.aCrowdIsTakenAsOneOfAKind();
        t.asIsBad();
        t.sizesAreAsked();
        t.marksAreAsked();
        t.asksGoByWhatIsNow();
        t.asksOfTheLastCrowd();
        t.asksAreBad();
        t.theTraceIsEmptyAheadOfAnAsk();
        t.theTraceStaysWhereAnAskIsRefused();
        t.theTraceHasItsPlaces();
        t.countsAreBad();
        t.countsOfNothing();
        t.countsOfTheMost();
        t.statusIsNoneAtFirst();
        t.statusIsOfEachFinding();
        t.statusIsNoneBehindACallWithoutAFinding();
        t.statusIsNotOfBadStateFull();
        t.statusIsNotOfOtherCalls();
        t.due.end();
    }

    private void is(String call, long got, long want) {
        due.is(call, got, want);
    }

    private void kindsAreToldOneToFive() {
        due.part("kind: The KIND of a CROWD, as told (1 to 5). BAD");
        MostRooms x = Due.with(FIVE);
        for (int c = 0; c < 5; c++) {
            is("kind(" + c + ")", x.kind(c), c + 1);
        }
        for (int crowd : new int[] {-1, 5, MIN, MAX}) {
            is("kind(" + crowd + ")", x.kind(crowd), BAD);
        }
        is("kind(1) of one CROWD", Due.with("room 1;crowd few 0 1;").kind(1), BAD);
        is("kind(0) of none", Due.with("room 1;").kind(0), BAD);
        is("kind(0) without a HOUSE", new MostRooms().kind(0), BAD);
    }

    private void aCrowdIsTakenAsOneOfAKind() {
        due.part("as: taken as one of a KIND (0 .. 5): the CROWD's number; KIND: it is no such one");
        MostRooms x = Due.with(FIVE);
        int[] kinds = {0b000011, 0b000111, 0b001011, 0b010001, 0b110001};
        for (int c = 0; c < 5; c++) {
            for (int kind = 0; kind <= 5; kind++) {
                boolean one = (kinds[c] >> kind & 1) == 1;
                is("as(" + c + ", " + kind + ")", x.as(c, kind), one ? c : KIND);
                is("status()", x.status(), one ? 0 : 3);
            }
        }
    }

    private void asIsBad() {
        due.part("as: BAD");
        MostRooms x = Due.with(FIVE);
        for (int crowd : new int[] {-1, 5, MIN, MAX}) {
            is("as(" + crowd + ", 0)", x.as(crowd, 0), BAD);
            is("as(" + crowd + ", 5): BAD ahead of KIND", x.as(crowd, 5), BAD);
        }
        for (int kind : new int[] {-1, 6, MIN, MAX}) {
            is("as(0, " + kind + ")", x.as(0, kind), BAD);
            is("as(4, " + kind + ")", x.as(4, kind), BAD);
        }
        is("as(0, 0) without a HOUSE", new MostRooms().as(0, 0), BAD);
        is("status()", x.status(), 0);
    }

    private void asked(MostRooms x, int crowd, int what, int want, int... trace) {
        is("ask(" + crowd + ", " + what + ")", x.ask(crowd, what), want);
        for (int i = 0; i < trace.length; i++) {
            is("trace(" + i + ") of ask(" + crowd + ", " + what + ")", x.trace(i), trace[i]);
        }
        for (int i = trace.length; i <= 16; i++) {
            is("trace(" + i + ") of ask(" + crowd + ", " + what + ")", x.trace(i), NONE);
        }
    }

    private void sizesAreAsked() {
        due.part("SIZE: 10 lent to all, 11 of MOST, 12 of LIKE, 13 of STAY, 14 of FEW");
        MostRooms x = Due.with(FIVE);
        asked(x, 0, 0, 50 + 0 + 5, 11, 10, 21, 20);
        asked(x, 1, 0, -(1 + 2 * (1 + 4)), 12, 11, 10, 24, 21, 20);
        asked(x, 2, 0, 2 + 2 + 3 - 1000, 11, 10, 22, 21, 20);
        asked(x, 3, 0, 50 - 100, 13, 10);
        asked(x, 4, 0, 2 * (3 - 100), 14, 13, 10);
    }

    private void marksAreAsked() {
        due.part("MARK: 20 lent to all, 21 of MOST, 22 of LATE, 23 of STAY, 24 of LIKE");
        MostRooms x = Due.with(FIVE);
        asked(x, 0, 1, 0 + 5, 21, 20);
        asked(x, 1, 1, 2 * (1 + 4), 24, 21, 20);
        asked(x, 2, 1, 2 + 3 - 1000, 22, 21, 20);
        asked(x, 3, 1, 3 - (50 - 100), 23, 20, 13, 10);
        asked(x, 4, 1, 4 - 2 * (3 - 100), 23, 20, 14, 13, 10);
    }

    private void asksGoByWhatIsNow() {
        due.part("ASKS: HEADS and where it is are those of now");
        MostRooms x = Due.with("room 1;room 1;door 0 1;crowd most 0 5;crowd stay 1 6;");
        asked(x, 0, 0, 5, 11, 10, 21, 20);
        x.bell();
        asked(x, 0, 0, 6, 11, 10, 21, 20);
        x.heads(0, 99);
        asked(x, 0, 0, 100, 11, 10, 21, 20);
        x.heads(1, 99);
        asked(x, 1, 0, -1, 13, 10);
        asked(x, 1, 1, 2, 23, 20, 13, 10);
        x.heads(1, 1);
        asked(x, 1, 0, -99, 13, 10);
    }

    private void asksOfTheLastCrowd() {
        due.part("ASKS: its number; where it is: the greatest");
        String four = SIX + "crowd stay 0 1;".repeat(4);
        asked(Due.with(four + "crowd most 5 50;"), 4, 0, 59, 11, 10, 21, 20);
        asked(Due.with(four + "crowd most 5 50;"), 4, 1, 9, 21, 20);
        asked(Due.with(four + "crowd like 5 50;"), 4, 0, -68, 12, 11, 10, 24, 21, 20);
        asked(Due.with(four + "crowd like 5 50;"), 4, 1, 18, 24, 21, 20);
        asked(Due.with(four + "crowd late 5 50;"), 4, 0, -941, 11, 10, 22, 21, 20);
        asked(Due.with(four + "crowd late 5 50;"), 4, 1, -991, 22, 21, 20);
        asked(Due.with(four + "crowd stay 5 50;"), 4, 1, 54, 23, 20, 13, 10);
        asked(Due.with(four + "crowd few 5 50;"), 4, 0, -100, 14, 13, 10);
        asked(Due.with(four + "crowd few 5 50;"), 4, 1, 104, 23, 20, 14, 13, 10);
    }

    private void asksAreBad() {
        due.part("ask: An ASK (0, 1) of a CROWD. BAD");
        MostRooms x = Due.with(FIVE);
        for (int wrong : new int[] {-1, 2, MIN, MAX}) {
            is("ask(0, " + wrong + ")", x.ask(0, wrong), BAD);
        }
        for (int wrong : new int[] {-1, 5, MIN, MAX}) {
            is("ask(" + wrong + ", 0)", x.ask(wrong, 0), BAD);
            is("ask(" + wrong + ", 1)", x.ask(wrong, 1), BAD);
        }
        is("ask(0, 0) without a HOUSE", new MostRooms().ask(0, 0), BAD);
        is("ask(0, 0) without CROWDS", Due.with("room 1;").ask(0, 0), BAD);
    }

    private void theTraceIsEmptyAheadOfAnAsk() {
        due.part("THE TRACE is empty ahead of it");
        MostRooms x = Due.with(FIVE);
        is("trace(0) ahead of all", x.trace(0), NONE);
        asked(x, 1, 0, -11, 12, 11, 10, 24, 21, 20);
        asked(x, 3, 0, -50, 13, 10);
        asked(x, 3, 0, -50, 13, 10);
        asked(x, 0, 1, 5, 21, 20);
    }

    private void theTraceStaysWhereAnAskIsRefused() {
        due.part("THE TRACE (where that is refused it stays)");
        MostRooms x = Due.with(FIVE);
        x.ask(4, 0);
        x.ask(5, 0);
        x.ask(-1, 1);
        x.ask(0, 2);
        x.ask(0, -1);
        x.as(0, 5);
        x.bell();
        Due.read(x, "room 1;");
        x.ask(0, 0);
        int[] trace = {14, 13, 10, NONE};
        for (int i = 0; i < trace.length; i++) {
            is("trace(" + i + ")", x.trace(i), trace[i]);
        }
    }

    private void theTraceHasItsPlaces() {
        due.part("trace: Number i of THE TRACE (the first 16); NONE");
        MostRooms x = Due.with(FIVE);
        for (int i : new int[] {-1, 0, 15, 16, MIN, MAX}) {
            is("trace(" + i + ") of none", x.trace(i), NONE);
        }
        x.ask(1, 0);
        is("trace(0)", x.trace(0), 12);
        is("trace(5): the last of the longest", x.trace(5), 20);
        for (int i : new int[] {-1, 6, 15, 16, 17, MIN, MAX}) {
            is("trace(" + i + ")", x.trace(i), NONE);
        }
    }

    private void countsAreBad() {
        due.part("count: 0 to 6. BAD");
        MostRooms x = new MostRooms();
        for (int what : new int[] {-1, 7, 8, MIN, MAX}) {
            is("count(" + what + ")", x.count(what), BAD);
        }
    }

    private void countsOfNothing() {
        due.part("count: How many: none");
        MostRooms x = new MostRooms();
        MostRooms y = Due.with("room 1;");
        for (int what = 0; what <= 6; what++) {
            is("count(" + what + ")", x.count(what), 0);
            is("count(" + what + ") of one ROOM", y.count(what), what == 1 ? 1 : 0);
        }
    }

    private void countsOfTheMost() {
        due.part("count: How many: 0 ROWS, 1 ROOMS, 2 CROWDS, 3 BELLS gone, 4 ACTS, 5 HEADS, 6 bytes on the tape");
        MostRooms x = Due.with(FIVE);
        for (int row = 0; row < 8; row++) {
            x.row(row, row % 3, 40);
        }
        for (int c = 0; c < 5; c++) {
            x.heads(c, 99);
        }
        for (int k = 0; k < 416; k++) {
            x.bells(0, 0, 24);
        }
        x.bells(0, 0, 15);
        for (int k = 0; k < 50; k++) {
            x.feed(0, 8);
        }
        int[] most = {8, 6, 5, 9999, 24, 495, 400};
        for (int what = 0; what <= 6; what++) {
            is("count(" + what + ")", x.count(what), most[what]);
        }
    }

    private void statusIsNoneAtFirst() {
        due.part("status: 0: there was none");
        MostRooms x = new MostRooms();
        is("status()", x.status(), 0);
        x.row(8, 0, 0);
        x.as(0, 0);
        x.bells(0, 0, 1);
        is("status() behind BAD and STATE", x.status(), 0);
    }

    private void found(MostRooms x, String call, int got, int finding, int number) {
        is(call, got, finding);
        is("status() behind " + call, x.status(), number);
    }

    private void statusIsOfEachFinding() {
        due.part("status: the number of its FINDING");
        MostRooms x = Due.with(FIVE);
        x.row(0, 0, 1);
        x.row(1, 1, 1);
        found(x, "set NULL", x.set(7, 0, 0), NULL, 1);
        found(x, "set PLACE", x.set(0, 1, 0), PLACE, 2);
        found(x, "as KIND", x.as(0, 2), KIND, 3);
        found(x, "row SIZE", x.row(0, 0, -1), SIZE, 4);
        found(x, "copy STORE", x.copy(0, 0, 1, 0, 1), STORE, 5);
        found(x, "copy PLACE", x.copy(0, 0, 0, 1, 1), PLACE, 2);
        found(x, "copy NULL", x.copy(0, 0, 7, 0, 1), NULL, 1);
        found(x, "bells PLACE", x.bells(0, 0, 2), PLACE, 2);
        found(x, "bells NULL", x.bells(7, 0, 2), NULL, 1);
        found(x, "row SIZE", x.row(7, 0, MIN), SIZE, 4);
        found(x, "drop NULL", x.drop(7), NULL, 1);
        is("NULL", NULL, -1000010 - 1);
        is("STORE", STORE, -1000010 - 5);
    }

    private void statusIsNoneBehindACallWithoutAFinding() {
        due.part("status: 0: it had none");
        MostRooms x = Due.with(FIVE);
        x.row(1, 0, 2);
        x.as(0, 5);
        found(x, "row", x.row(0, 0, 2), 2, 0);
        x.as(0, 5);
        found(x, "row of none", x.row(2, 0, 0), 0, 0);
        x.as(0, 5);
        found(x, "set", x.set(0, 0, 1), 1, 0);
        x.as(0, 5);
        found(x, "copy", x.copy(0, 0, 1, 0, 2), 2, 0);
        x.as(0, 5);
        found(x, "copy of none", x.copy(0, 2, 1, 2, 0), 0, 0);
        x.as(0, 5);
        found(x, "bells", x.bells(0, 0, 1), 107, 0);
        x.as(0, 5);
        found(x, "drop", x.drop(0), 2, 0);
        x.as(0, 5);
        found(x, "as", x.as(4, 5), 4, 0);
    }

    private void statusIsNotOfBadStateFull() {
        due.part("status: Of the latest call with a ROW, or as(), that was not BAD, STATE, FULL");
        for (int finding = 0; finding <= 1; finding++) {
            MostRooms x = Due.with(FIVE);
            x.row(0, 0, 3);
            x.set(0, 0, 32);
            x.set(0, 1, 1);
            x.heads(0, 99);
            x.set(0, 2 + finding, 0);
            int status = 2 * finding;
            found(x, "row BAD", x.row(8, 0, 0), BAD, status);
            found(x, "set BAD", x.set(8, 0, 0), BAD, status);
            found(x, "copy BAD", x.copy(0, 0, 8, 0, 0), BAD, status);
            found(x, "drop BAD", x.drop(8), BAD, status);
            found(x, "bells BAD", x.bells(8, 0, 1), BAD, status);
            found(x, "bells BAD, an ITEM", x.bells(0, 0, 1), BAD, status);
            found(x, "bells FULL", x.bells(0, 1, 1), FULL, status);
            found(x, "as BAD", x.as(0, 6), BAD, status);
        }
        MostRooms y = new MostRooms();
        y.row(0, 0, -1);
        found(y, "bells STATE", y.bells(0, 0, 1), STATE, 4);
        found(y, "as BAD", y.as(0, 0), BAD, 4);
    }

    private void statusIsNotOfOtherCalls() {
        due.part("status: Of the latest call with a ROW, or as(): other calls leave it");
        MostRooms x = Due.with(FIVE);
        x.drop(0);
        x.feed(0, 1);
        x.feed(0, 9);
        x.house();
        Due.read(x, FIVE);
        x.fault();
        x.bell();
        x.door(0, 1, 1);
        x.heads(0, 1);
        x.undo();
        x.crowd(0, 0);
        x.room(0, 0);
        x.ahead(0, 1);
        x.roomAhead(0, 1, 1);
        x.rest(0);
        x.hired(0, 1, 0);
        x.empty(0, 1, 0);
        x.apart(0, 1, 1);
        x.began(0, 1);
        x.image(0);
        x.restore(0);
        x.kind(0);
        x.ask(0, 0);
        x.trace(0);
        x.count(0);
        is("status()", x.status(), 1);
        is("status() again", x.status(), 1);
    }
}

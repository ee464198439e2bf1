/** For each promise of the document: ordinary calls, the edges that it names, and wrong calls. */
public final class PromiseTest {
    private static final int NONE = -1000000, BAD = -1000001, STATE = -1000002, FULL = -1000003;
    private static final int NULL = -1000011, PLACE = -1000012, KIND = -1000013, SIZE = -1000014, STORE = -1000015;
    private static final int MIN = Integer.MIN_VALUE, MAX = Integer.MAX_VALUE;
    /** Two ROOMS that see each other, a CROWD in each. */
    private static final String TWO = "room 9; room 4; door 0 1; crowd most 0 5; crowd stay 1 8;";
    /** A CROWD of each SORT, in the order of the KINDS; the last goes to and fro for ever. */
    private static final String FIVE = "room 9; room 5; room 20; door 0 1; door 1 2; door 0 2; "
        + "crowd most 0 5; crowd like 1 4; crowd late 2 3; crowd stay 1 8; crowd few 0 2;";

    private final Due due = new Due();

    public static void main(String[] args) {
        PromiseTest t = new PromiseTest();
        t.newObject();
        t.rowsAreMade();
        t.itemsAreSet();
        t.itemsAreCopied();
        t.rowsAreDropped();
        t.tapeIsFed();
        t.housesAreRead();
        t.faultsAreTold();
        t.textsOfManyPartsAreRead();
        t.tapesAreReadAnew();
        t.faultsAreKept();
        t.bellsRing();
        t.sortsGo();
        t.lateGoesByTheBellBefore();
        t.bellsEnd();
        t.bellsRingByARow();
        t.bellsByARowAreRefused();
        t.doorsAreMadeAndShut();
        t.headsAreGiven();
        t.actsAreUndone();
        t.actsAreForgotten();
        t.crowdsAreTold();
        t.roomsAreTold();
        t.aheadIsForetold();
        t.worthIsForetold();
        t.restIsForetold();
        t.headsAreHired();
        t.lateGoesByTheHired();
        t.roomsAreEmptied();
        t.crowdsAreKeptApart();
        t.beginningsAreFound();
        t.imagesAreKept();
        t.kindsAreTold();
        t.crowdsAreTakenAs();
        t.asksAreAnswered();
        t.tracesAreLeft();
        t.countsAreTold();
        t.statusIsTold();
        t.due.end();
    }

    private void is(String call, long got, long want) {
        due.is(call, got, want);
    }

    private void newObject() {
        due.part("1 a new object");
        MostRooms x = new MostRooms();
        for (int what = 0; what <= 6; what++) {
            is("count(" + what + ")", x.count(what), 0);
        }
        is("fault()", x.fault(), 0);
        is("status()", x.status(), 0);
        is("bell()", x.bell(), STATE);
        is("undo()", x.undo(), STATE);
        is("restore(1)", x.restore(1), STATE);
        is("crowd(0, 0)", x.crowd(0, 0), BAD);
        is("room(0, 0)", x.room(0, 0), BAD);
        is("trace(0)", x.trace(0), NONE);
        is("set(7, 0, 1)", x.set(7, 0, 1), NULL);
        due.part("1 objects do not share");
        Due.read(x, TWO);
        is("count(1) of another", new MostRooms().count(1), 0);
    }

    private void rowsAreMade() {
        due.part("2 row");
        MostRooms x = new MostRooms();
        is("row(0, 0, 40)", x.row(0, 0, 40), 40);
        is("row(7, 2, 0)", x.row(7, 2, 0), 0);
        is("count(0)", x.count(0), 2);
        is("set(0, 39, 5)", x.set(0, 39, 5), 5);
        is("row(0, 1, 40) anew", x.row(0, 1, 40), 40);
        is("count(0)", x.count(0), 2);
        Due.read(x, TWO);
        is("bells of an ITEM that is 0 again", x.bells(0, 39, 1), 13);
        x.set(0, 0, 1);
        is("row(0, 0, 1) anew", x.row(0, 0, 1), 1);
        is("bells of ITEM 0 that is 0 again", x.bells(0, 0, 1), 13);
        is("row(0, 1, 40) anew", x.row(0, 1, 40), 40);
        is("row(-1, 0, 1)", x.row(-1, 0, 1), BAD);
        is("row(8, 0, 1)", x.row(8, 0, 1), BAD);
        is("row(0, -1, 1)", x.row(0, -1, 1), BAD);
        is("row(0, 3, 1)", x.row(0, 3, 1), BAD);
        is("row(0, 0, 41)", x.row(0, 0, 41), BAD);
        is("row(0, 0, MAX)", x.row(0, 0, MAX), BAD);
        is("row(8, 0, -1): BAD ahead of SIZE", x.row(8, 0, -1), BAD);
        is("row(1, 3, -1): BAD ahead of SIZE", x.row(1, 3, -1), BAD);
        is("row(1, 0, -1)", x.row(1, 0, -1), SIZE);
        is("row(1, 0, MIN)", x.row(1, 0, MIN), SIZE);
        is("count(0)", x.count(0), 2);
        is("row(0, 0, -1) of one that is there", x.row(0, 0, -1), SIZE);
        is("drop(0): it stayed", x.drop(0), 40);
    }

    private void itemsAreSet() {
        due.part("3 set");
        MostRooms x = new MostRooms();
        x.row(0, 0, 2);
        x.row(1, 1, 2);
        x.row(2, 2, 2);
        is("set a byte 127", x.set(0, 0, 127), 127);
        is("set a byte 128", x.set(0, 0, 128), -128);
        is("set a byte 511", x.set(0, 1, 511), -1);
        is("set a byte 65536", x.set(0, 1, 65536), 0);
        is("set a short 32767", x.set(1, 0, 32767), 32767);
        is("set a short 32768", x.set(1, 0, 32768), -32768);
        is("set a short 65537", x.set(1, 1, 65537), 1);
        is("set an int MIN", x.set(2, 0, MIN), MIN);
        is("set an int 70000", x.set(2, 1, 70000), 70000);
        is("set(8, 0, 0)", x.set(8, 0, 0), BAD);
        is("set(-1, 0, 0)", x.set(-1, 0, 0), BAD);
        is("set(3, 0, 0)", x.set(3, 0, 0), NULL);
        is("set(3, -1, 0): NULL ahead of PLACE", x.set(3, -1, 0), NULL);
        is("set(0, 2, 0)", x.set(0, 2, 0), PLACE);
        is("set(0, -1, 0)", x.set(0, -1, 0), PLACE);
        is("set(0, MAX, 0)", x.set(0, MAX, 0), PLACE);
        is("set(0, MIN, 0)", x.set(0, MIN, 0), PLACE);
    }

    /** ITEMS are read by setting nothing: bells() tells which of them are 1. */
    private int itemIs(MostRooms x, int row, int i) {
        int before = x.count(5);
        int after = x.bells(row, i, 1);
        return after < 0 ? after : after - before;
    }

    private void itemsAreCopied() {
        due.part("4 copy");
        MostRooms x = Due.with(TWO);
        x.row(0, 0, 5);
        x.row(1, 0, 3);
        x.row(2, 1, 3);
        x.set(0, 0, 1);
        x.set(0, 1, 3);
        is("copy(0, 0, 0, 1, 4): as they were ahead", x.copy(0, 0, 0, 1, 4), 4);
        is("item 0", itemIs(x, 0, 0), 1);
        is("item 1", itemIs(x, 0, 1), 1);
        is("item 2", itemIs(x, 0, 2), 2);
        is("item 3", itemIs(x, 0, 3), 0);
        is("copy(0, 1, 0, 0, 4): as they were ahead", x.copy(0, 1, 0, 0, 4), 4);
        is("item 0", itemIs(x, 0, 0), 1);
        is("item 1", itemIs(x, 0, 1), 2);
        is("item 2", itemIs(x, 0, 2), 0);
        is("copy(0, 0, 1, 1, 2)", x.copy(0, 0, 1, 1, 2), 2);
        is("item 0 of 1", itemIs(x, 1, 0), 0);
        is("item 1 of 1", itemIs(x, 1, 1), 1);
        is("item 2 of 1", itemIs(x, 1, 2), 2);
        is("copy(0, 5, 1, 3, 0): none, at the ends", x.copy(0, 5, 1, 3, 0), 0);
        is("copy(8, 0, 1, 0, 1)", x.copy(8, 0, 1, 0, 1), BAD);
        is("copy(0, 0, -1, 0, 1)", x.copy(0, 0, -1, 0, 1), BAD);
        is("copy(4, 0, 8, 0, 1): BAD ahead of NULL", x.copy(4, 0, 8, 0, 1), BAD);
        is("copy(4, 0, 0, 0, 1)", x.copy(4, 0, 0, 0, 1), NULL);
        is("copy(0, 0, 4, 0, -1): NULL ahead of PLACE", x.copy(0, 0, 4, 0, -1), NULL);
        is("copy(0, 0, 2, 0, 1)", x.copy(0, 0, 2, 0, 1), STORE);
        is("copy(0, 0, 2, 0, -1): STORE ahead of PLACE", x.copy(0, 0, 2, 0, -1), STORE);
        is("copy(0, 0, 2, 0, 0): STORE of none", x.copy(0, 0, 2, 0, 0), STORE);
        is("copy(0, 0, 1, 0, -1)", x.copy(0, 0, 1, 0, -1), PLACE);
        is("copy(0, -1, 1, 0, 1)", x.copy(0, -1, 1, 0, 1), PLACE);
        is("copy(0, 0, 1, -1, 1)", x.copy(0, 0, 1, -1, 1), PLACE);
        is("copy(0, 4, 1, 0, 2)", x.copy(0, 4, 1, 0, 2), PLACE);
        is("copy(0, 0, 1, 2, 2)", x.copy(0, 0, 1, 2, 2), PLACE);
        is("copy(0, 6, 1, 0, 0)", x.copy(0, 6, 1, 0, 0), PLACE);
        is("copy(0, 0, 1, 4, 0)", x.copy(0, 0, 1, 4, 0), PLACE);
        is("copy(0, MAX, 1, 0, MAX)", x.copy(0, MAX, 1, 0, MAX), PLACE);
        is("copy(0, 1, 1, 1, MAX)", x.copy(0, 1, 1, 1, MAX), PLACE);
        is("copy(0, MIN, 1, MIN, MIN)", x.copy(0, MIN, 1, MIN, MIN), PLACE);
    }

    private void rowsAreDropped() {
        due.part("5 drop");
        MostRooms x = new MostRooms();
        x.row(3, 0, 7);
        x.row(4, 0, 0);
        is("drop(3)", x.drop(3), 7);
        is("count(0)", x.count(0), 1);
        is("set(3, 0, 0)", x.set(3, 0, 0), NULL);
        is("drop(3)", x.drop(3), NULL);
        is("drop(4): one with no ITEM is there", x.drop(4), 0);
        is("drop(4)", x.drop(4), NULL);
        is("drop(8)", x.drop(8), BAD);
        is("drop(-1)", x.drop(-1), BAD);
        is("row(3, 1, 2)", x.row(3, 1, 2), 2);
        is("count(0)", x.count(0), 1);
    }

    private void tapeIsFed() {
        due.part("6 feed");
        MostRooms x = new MostRooms();
        is("feed(0, 0)", x.feed(0, 0), BAD);
        is("feed(0, 9)", x.feed(0, 9), BAD);
        is("feed(0, -1)", x.feed(0, -1), BAD);
        is("feed 'room'", x.feed(0xFFFFFFFF726F6F6DL, 4), 4);
        is("feed '3;'", x.feed(0xFFFFFFFFFFFF333BL, 2), 6);
        is("house(): the highest byte is first, what is above is not read", x.house(), 1);
        is("room(0, 0)", x.room(0, 0), 3);
        due.part("6 feed, a full tape");
        for (int k = 1; k <= 49; k++) {
            is("feed 8", x.feed(0x2020202020202020L, 8), 8L * k);
        }
        is("feed 7", x.feed(0x20202020202020L, 7), 399);
        is("feed 2 beyond", x.feed(0x3131, 2), FULL);
        is("feed 8 beyond", x.feed(0, 8), FULL);
        is("feed 9: BAD ahead of FULL", x.feed(0, 9), BAD);
        is("count(6): none came", x.count(6), 399);
        is("feed the last", x.feed(0x20, 1), 400);
        is("feed 1 beyond", x.feed(0x20, 1), FULL);
        is("house() of blanks: the end is the FAULT", x.house(), -1000500);
        is("count(6)", x.count(6), 0);
        is("feed anew", x.feed(0x20, 1), 1);
    }

    private void text(String text, int want, int fault) {
        MostRooms x = new MostRooms();
        is("house() of " + text, Due.read(x, text), want);
        is("fault() of " + text, x.fault(), fault);
        is("tape of " + text, x.count(6), 0);
    }

    private void faulty(String text, int place, int number) {
        text(text, -1000100 - place, number);
    }

    private void housesAreRead() {
        due.part("7 house, what can be read");
        text("room 0;", 1, 0);
        text("room99;", 1, 0);
        text("room 099;", 1, 0);
        text("room 000;room 007;", 2, 0);
        text("\n room\n0\n;\n ", 1, 0);
        text("room1;room2;door0 1;crowd most0 1;crowd few 1 50;", 2, 0);
        text("room 1;room 2;door 0 1;door 1 0;door 0 1;", 2, 0);
        text("room 1;crowd stay 0 7;", 1, 0);
        text("room 1;crowd like 0 7;crowd late 0 007;", 1, 0);
        due.part("7 house, in place of the one before");
        MostRooms x = Due.with(TWO);
        x.bell();
        x.row(0, 0, 3);
        x.image(0);
        is("house()", Due.read(x, "room 3;"), 1);
        is("count(2)", x.count(2), 0);
        is("count(3): BELL 0 is to come", x.count(3), 0);
        is("count(4): no ACT", x.count(4), 0);
        is("undo()", x.undo(), STATE);
        is("count(0): ROWS stay", x.count(0), 1);
        is("room(0, 2): DOORS do not stay", x.room(0, 2), 0);
        is("restore(0): IMAGES stay", x.restore(0), 1);
        is("count(1)", x.count(1), 2);
        is("count(3)", x.count(3), 1);
    }

    private void faultsAreTold() {
        due.part("7 house, FAULTS");
        faulty("", 0, 1);
        faulty("  \n", 3, 1);
        faulty("room", 4, 1);
        faulty("room  ", 6, 1);
        faulty("room 1", 6, 1);
        faulty("door 0 1;", 0, 1);
        faulty("crowd most 0 1;", 0, 1);
        faulty(" rooms 1;", 1, 1);
        faulty("roo 1;", 0, 1);
        faulty("doom 1;", 0, 1);
        faulty("rood 1;", 0, 1);
        faulty("rooma 1;", 0, 1);
        faulty("roomz 1;", 0, 1);
        faulty("room` 1;", 4, 1);
        faulty("room{ 1;", 4, 1);
        faulty("room 1/;", 6, 1);
        faulty("room 1:;", 6, 1);
        faulty("room 9a;", 6, 1);
        faulty("Room 1;", 0, 1);
        faulty("room ;", 5, 1);
        faulty("room 100;", 5, 2);
        faulty("room 1000;", 5, 1);
        faulty("room 0001;", 5, 1);
        faulty("room -1;", 5, 1);
        faulty("room 1:", 6, 1);
        faulty("room 1 2;", 7, 1);
        faulty("room 1;;", 7, 1);
        faulty("room 1;\t", 7, 1);
        faulty("room 1;\u00e9", 7, 1);
        faulty("room 1;5", 7, 1);
        faulty("room 1;most", 7, 1);
        faulty("room 1;door 0 0;", 14, 2);
        faulty("room 1;door 1 0;", 12, 2);
        faulty("room 1;room 1;door 0 2;", 21, 2);
        faulty("room 1;room 1;door 0;", 20, 1);
        faulty("room 1;room 1;door 0 1 0;", 23, 1);
        faulty("room 1;room 1;door 0 1;room 1;", 23, 1);
        faulty("room 1;room 1;door a 1;", 19, 1);
        faulty("room 1;crowd most 0 1;room 1;", 22, 1);
        faulty("room 1;room 1;crowd most 0 1;door 0 1;", 29, 1);
        faulty("room 1;crowd 0 1;", 13, 1);
        faulty("room 1;crowd lates 0 1;", 13, 1);
        faulty("room 1;crowd most 1 1;", 18, 2);
        faulty("room 1;crowd most 0 0;", 20, 2);
        faulty("room 1;crowd most 0 51;", 20, 2);
        faulty("room 1;crowd most 0 1", 21, 1);
        faulty("room 1;crowd most 0 1 ; x", 24, 1);
    }

    private static String times(String part, int n) {
        StringBuilder s = new StringBuilder();
        for (int k = 0; k < n; k++) {
            s.append(part);
        }
        return s.toString();
    }

    private void textsOfManyPartsAreRead() {
        due.part("7 house, more than there is room for");
        String rooms = times("room1;", 6);
        String doors = times("door0 1;", 12);
        String crowds = times("crowd few0 1;", 5);
        text(rooms + doors + crowds, 6, 0);
        faulty(rooms + "room1;", 36, 3);
        faulty(rooms + "room", 36, 3);
        faulty(rooms + doors + "door9999 x", 132, 3);
        faulty(rooms + doors + "room1;", 132, 1);
        faulty(rooms + doors + crowds + "crowd few 0 1;", 197, 3);
        faulty(rooms + doors + crowds + "door 0 1;", 197, 1);
        faulty(rooms + crowds + "crowd", 101, 3);
        MostRooms x = Due.with(rooms + doors + crowds);
        is("room(0, 2): one DOOR told twelve times", x.room(0, 2), 2);
        is("door(1, 0, 0)", x.door(1, 0, 0), 1);
        is("room(0, 2): shut", x.room(0, 2), 0);
    }

    private void tapesAreReadAnew() {
        due.part("7 house, nothing of the tape before");
        MostRooms x = new MostRooms();
        is("house() of roomroom", Due.read(x, "roomroom"), -1000100);
        is("house() of room", Due.read(x, "room"), -1000104);
        is("house() of room 1111", Due.read(x, "room 1111"), -1000105);
        is("house() of room 1", Due.read(x, "room 1"), -1000106);
        String full = times("room 1;", 6) + times("door 0 1;", 12) + times("crowd few 0 1;", 5);
        is("house() of many", Due.read(x, full), 6);
        is("house() of as many", Due.read(x, full), 6);
        is("house() without a DOOR", Due.read(x, "room 1;room 1;crowd few 0 1;"), 2);
        is("room(0, 2)", x.room(0, 2), 0);
        is("count(2)", x.count(2), 1);
    }

    private void faultsAreKept() {
        due.part("8 fault");
        MostRooms x = new MostRooms();
        Due.read(x, "room 100;");
        is("fault()", x.fault(), 2);
        Due.read(x, TWO);
        is("fault() behind a HOUSE that was read", x.fault(), 2);
        x.bell();
        x.image(1);
        x.set(0, 0, 0);
        x.ask(0, 0);
        Due.read(x, times("room 1;", 7));
        is("fault()", x.fault(), 3);
        is("count(1): the HOUSE stays", x.count(1), 2);
        is("count(3): BELLS stay", x.count(3), 1);
        is("count(4): ACTS stay", x.count(4), 1);
        is("count(5): CROWDS stay", x.count(5), 13);
        is("status() stays", x.status(), 1);
        is("trace(0) stays", x.trace(0), 11);
        is("undo()", x.undo(), 0);
        is("crowd(0, 0)", x.crowd(0, 0), 0);
        Due.read(x, "x");
        is("fault()", x.fault(), 1);
    }

    private void bellsRing() {
        due.part("9 bell");
        MostRooms x = Due.with(FIVE);
        is("bell()", x.bell(), 0b10101);
        is("crowd 0 to where most are", x.crowd(0, 0), 1);
        is("crowd 1 stays with its SORT", x.crowd(1, 0), 1);
        is("crowd 2 as it is at BELL 0", x.crowd(2, 0), 1);
        is("crowd 3 stays", x.crowd(3, 0), 1);
        is("crowd 4 to where fewest are", x.crowd(4, 0), 2);
        is("bell()", x.bell(), 0b10000);
        is("crowd 4", x.crowd(4, 0), 0);
        is("count(3)", x.count(3), 2);
        is("count(4)", x.count(4), 2);
        is("bell() of no CROWD", Due.with("room 1;room 1;door 0 1;").bell(), 0);
        is("bell() of no HOUSE", new MostRooms().bell(), STATE);
    }

    private void goesTo(String sort, String crowds, int want) {
        MostRooms x = Due.with("room 1;room 1;room 1;room 1;door 0 1;door 1 2;door 1 3;crowd "
            + sort + " 1 3;" + crowds);
        x.bell();
        is(sort + " among " + crowds, x.crowd(0, 0), want);
    }

    private void sortsGo() {
        due.part("9 bell, of several");
        goesTo("most", "crowd stay 0 4;crowd stay 2 4;", 0);
        goesTo("most", "crowd stay 0 4;crowd stay 2 5;", 2);
        goesTo("most", "crowd stay 0 3;", 1);
        goesTo("most", "crowd stay 3 2;crowd stay 3 2;", 3);
        goesTo("few", "", 0);
        goesTo("few", "crowd stay 0 1;", 2);
        goesTo("few", "crowd stay 0 3;crowd stay 2 3;crowd stay 3 3;", 1);
        goesTo("few", "crowd stay 0 4;crowd stay 2 4;crowd stay 3 4;", 1);
        goesTo("like", "crowd like 2 4;crowd stay 0 9;", 2);
        goesTo("like", "crowd most 2 4;crowd stay 0 9;crowd late 3 7;", 1);
        goesTo("like", "crowd like 3 4;crowd like 2 4;", 2);
        goesTo("late", "crowd stay 2 9;", 2);
        goesTo("stay", "crowd stay 2 9;", 1);
        due.part("9 bell, ROOMS that are not seen");
        MostRooms x = Due.with("room 1;room 1;room 1;door 0 1;crowd most 0 1;crowd stay 2 50;crowd few 0 1;");
        is("bell()", x.bell(), 0b100);
        is("bell()", x.bell(), 0b000);
        is("crowd(2, 0)", x.crowd(2, 0), 1);
        is("all go at once", Due.with("room 1;room 1;door 0 1;crowd few 0 2;crowd few 0 2;").bell(), 3);
        is("they change places", Due.with("room 1;room 1;door 0 1;crowd most 0 2;crowd few 1 3;").bell(), 3);
    }

    private void lateGoesByTheBellBefore() {
        due.part("9 bell, late");
        MostRooms x = Due.with("room 1;room 1;door 0 1;crowd late 0 2;crowd stay 0 3;crowd stay 1 4;");
        is("bell() 0: as it is", x.bell(), 0);
        x.heads(2, 9);
        is("bell() 1: by what was ahead of BELL 0", x.bell(), 0);
        is("bell() 2: by what was ahead of BELL 1", x.bell(), 1);
        is("undo() BELL 2", x.undo(), 3);
        is("bell() 2 again", x.bell(), 1);
        x.undo();
        x.undo();
        is("bell() 1 again", x.bell(), 0);
        for (int k = 0; k < 3; k++) {
            x.undo();
        }
        x.heads(2, 9);
        is("bell() 0 again: as it is", x.bell(), 1);
        is("a DOOR of now counts", x.door(0, 1, 0), 1);
        is("bell()", x.bell(), 0);
    }

    private void bellsEnd() {
        due.part("9, 10 bell, bells: 9999");
        MostRooms x = Due.with("room 1;room 1;door 0 1;crowd few 0 1;");
        x.row(0, 0, 24);
        x.row(1, 0, 24);
        x.set(1, 0, 1);
        for (int k = 0; k < 416; k++) {
            x.bells(0, 0, 24);
        }
        is("count(3)", x.count(3), 9984);
        is("bells(0, 0, 16)", x.bells(0, 0, 16), FULL);
        is("count(3)", x.count(3), 9984);
        is("crowd(0, 0)", x.crowd(0, 0), 0);
        is("bells(0, 0, 15): the last of them", x.bells(0, 0, 15), 1);
        is("bell()", x.bell(), FULL);
        is("undo()", x.undo(), 23);
        is("bells(1, 0, 2)", x.bells(1, 0, 2), FULL);
        is("count(5)", x.count(5), 1);
        is("bell()", x.bell(), 1);
        is("count(3)", x.count(3), 9999);
        is("bell()", x.bell(), FULL);
        is("bells(0, 0, 1)", x.bells(0, 0, 1), FULL);
        is("ahead(0, 1): foretold all the same", x.ahead(0, 1), 0);
        is("crowd(0, 0)", x.crowd(0, 0), 1);
        is("undo()", x.undo(), 23);
        is("bell()", x.bell(), 1);
        is("bell()", x.bell(), FULL);
        is("count(4)", x.count(4), 24);
    }

    private void bellsRingByARow() {
        due.part("10 bells");
        MostRooms x = Due.with(TWO);
        x.row(2, 0, 4);
        x.set(2, 1, 1);
        x.set(2, 2, 3);
        x.set(2, 3, 2);
        is("bells(2, 1, 3)", x.bells(2, 1, 3), 17);
        is("crowd(0, 1)", x.crowd(0, 1), 7);
        is("crowd(1, 1)", x.crowd(1, 1), 10);
        is("crowd(0, 0)", x.crowd(0, 0), 1);
        is("count(3)", x.count(3), 3);
        is("count(4)", x.count(4), 3);
        is("undo(): a BELL with its HEADS", x.undo(), 2);
        is("crowd(1, 1)", x.crowd(1, 1), 9);
        is("crowd(0, 1)", x.crowd(0, 1), 7);
        is("undo()", x.undo(), 1);
        is("undo()", x.undo(), 0);
        is("crowd(0, 1)", x.crowd(0, 1), 5);
        is("crowd(0, 0)", x.crowd(0, 0), 0);
        due.part("10 bells, HEADS come behind the BELL");
        MostRooms y = Due.with("room 1;room 1;door 0 1;crowd most 0 4;crowd stay 1 4;");
        y.row(0, 2, 2);
        y.set(0, 0, 2);
        is("bells(0, 0, 1)", y.bells(0, 0, 1), 9);
        is("crowd(0, 0): as many were there ahead of it", y.crowd(0, 0), 0);
        is("bell()", y.bell(), 1);
        MostRooms z = Due.with("room 1;room 1;door 0 1;crowd late 0 4;crowd stay 1 4;");
        z.row(0, 2, 2);
        z.set(0, 0, 2);
        z.bells(0, 0, 1);
        is("bell() late: what was ahead of the BELL before had not the HEAD", z.bell(), 0);
        is("bell() late", z.bell(), 1);
    }

    private void bellsByARowAreRefused() {
        due.part("10 bells, refused");
        MostRooms x = new MostRooms();
        is("bells(9, 0, 0) of no HOUSE: ahead of BAD", x.bells(9, 0, 0), STATE);
        Due.read(x, TWO);
        x.row(0, 0, 26);
        is("bells(8, 0, 1)", x.bells(8, 0, 1), BAD);
        is("bells(-1, 0, 1)", x.bells(-1, 0, 1), BAD);
        is("bells(0, 0, 0)", x.bells(0, 0, 0), BAD);
        is("bells(0, 0, 25)", x.bells(0, 0, 25), BAD);
        is("bells(1, 0, 25): BAD ahead of NULL", x.bells(1, 0, 25), BAD);
        is("bells(1, 30, 1): NULL ahead of PLACE", x.bells(1, 30, 1), NULL);
        is("bells(0, 26, 1)", x.bells(0, 26, 1), PLACE);
        is("bells(0, 3, 24)", x.bells(0, 3, 24), PLACE);
        is("bells(0, -1, 1)", x.bells(0, -1, 1), PLACE);
        is("bells(0, MAX, 24)", x.bells(0, MAX, 24), PLACE);
        x.set(0, 5, 4);
        is("bells(0, 5, 24): PLACE ahead of the ITEM", x.bells(0, 5, 24), PLACE);
        is("bells(0, 4, 2): no set of two CROWDS", x.bells(0, 4, 2), BAD);
        x.set(0, 5, -1);
        is("bells(0, 5, 1): below none", x.bells(0, 5, 1), BAD);
        is("count(3): none rang", x.count(3), 0);
        due.part("10 bells, too many HEADS");
        x.set(0, 0, 1);
        x.set(0, 1, 1);
        x.heads(0, 98);
        is("bells(0, 0, 2)", x.bells(0, 0, 2), FULL);
        is("bells(0, 0, 6): BAD ahead of FULL", x.bells(0, 0, 6), BAD);
        is("crowd(0, 1)", x.crowd(0, 1), 98);
        is("bells(0, 0, 1)", x.bells(0, 0, 1), 107);
        is("crowd(0, 1)", x.crowd(0, 1), 99);
        is("bells(0, 2, 3): no more HEADS", x.bells(0, 2, 3), 107);
        is("bells(0, 1, 1)", x.bells(0, 1, 1), FULL);
        is("bells(0, 2, 24): ITEM 5", x.bells(0, 2, 24), BAD);
        x.set(0, 5, 0);
        is("bells(0, 2, 24)", x.bells(0, 2, 24), 107);
    }

    private void doorsAreMadeAndShut() {
        due.part("11 door");
        MostRooms x = Due.with("room 1;room 1;room 1;door 0 1;");
        is("door(0, 2, 1)", x.door(0, 2, 1), 0);
        is("door(2, 0, 1)", x.door(2, 0, 1), 1);
        is("room(0, 2)", x.room(0, 2), 6);
        is("room(2, 2)", x.room(2, 2), 1);
        is("door(1, 0, 0)", x.door(1, 0, 0), 1);
        is("door(1, 0, 0)", x.door(1, 0, 0), 0);
        is("room(0, 2)", x.room(0, 2), 4);
        is("room(1, 2)", x.room(1, 2), 0);
        is("count(4)", x.count(4), 4);
        is("door(0, 0, 1)", x.door(0, 0, 1), BAD);
        is("door(0, 3, 1)", x.door(0, 3, 1), BAD);
        is("door(-1, 0, 1)", x.door(-1, 0, 1), BAD);
        is("door(0, 1, 2)", x.door(0, 1, 2), BAD);
        is("door(0, 1, -1)", x.door(0, 1, -1), BAD);
        is("count(4)", x.count(4), 4);
        MostRooms full = Due.with(times("room 1;", 6) + times("door 0 1;", 12));
        is("door(4, 5, 1): more than can be told", full.door(4, 5, 1), 0);
        is("room(5, 2)", full.room(5, 2), 16);
    }

    private void headsAreGiven() {
        due.part("12 heads");
        MostRooms x = Due.with(TWO);
        is("heads(0, 99)", x.heads(0, 99), 5);
        is("heads(0, 1)", x.heads(0, 1), 99);
        is("heads(0, 1)", x.heads(0, 1), 1);
        is("crowd(0, 1)", x.crowd(0, 1), 1);
        is("crowd(1, 1)", x.crowd(1, 1), 8);
        is("count(4)", x.count(4), 3);
        is("heads(0, 0)", x.heads(0, 0), BAD);
        is("heads(0, 100)", x.heads(0, 100), BAD);
        is("heads(2, 1)", x.heads(2, 1), BAD);
        is("heads(-1, 1)", x.heads(-1, 1), BAD);
        is("count(4)", x.count(4), 3);
    }

    private void actsAreUndone() {
        due.part("13 undo");
        MostRooms x = Due.with(TWO);
        is("undo()", x.undo(), STATE);
        x.bell();
        x.door(0, 1, 0);
        x.heads(0, 50);
        x.door(0, 1, 0);
        x.bell();
        is("undo(): a BELL at which none went", x.undo(), 4);
        is("count(3)", x.count(3), 1);
        is("undo(): a DOOR that was shut", x.undo(), 3);
        is("room(0, 2)", x.room(0, 2), 0);
        is("undo(): HEADS", x.undo(), 2);
        is("crowd(0, 1)", x.crowd(0, 1), 5);
        is("undo(): a DOOR", x.undo(), 1);
        is("room(0, 2)", x.room(0, 2), 2);
        is("room(1, 2)", x.room(1, 2), 1);
        is("crowd(0, 0)", x.crowd(0, 0), 1);
        is("undo(): a BELL", x.undo(), 0);
        is("crowd(0, 0)", x.crowd(0, 0), 0);
        is("count(3)", x.count(3), 0);
        is("undo()", x.undo(), STATE);
        is("undo() of no HOUSE", new MostRooms().undo(), STATE);
    }

    private void actsAreForgotten() {
        due.part("13 undo, 24 at most");
        MostRooms x = Due.with(TWO);
        for (int n = 1; n <= 30; n++) {
            x.heads(0, n);
            is("count(4)", x.count(4), Math.min(n, 24));
        }
        for (int n = 23; n >= 0; n--) {
            is("undo()", x.undo(), n);
            is("crowd(0, 1)", x.crowd(0, 1), n + 6);
        }
        is("undo()", x.undo(), STATE);
        is("crowd(0, 1): the oldest are forgotten", x.crowd(0, 1), 6);
        x.row(0, 0, 24);
        x.heads(0, 9);
        x.bells(0, 0, 24);
        is("count(4)", x.count(4), 24);
        for (int n = 23; n >= 0; n--) {
            is("undo()", x.undo(), n);
        }
        is("crowd(0, 1)", x.crowd(0, 1), 9);
        is("count(3)", x.count(3), 0);
    }

    private void crowdsAreTold() {
        due.part("14 crowd");
        MostRooms x = Due.with(FIVE);
        int[] rooms = {0, 1, 2, 1, 0};
        int[] heads = {5, 4, 3, 8, 2};
        for (int c = 0; c < 5; c++) {
            is("crowd(" + c + ", 0)", x.crowd(c, 0), rooms[c]);
            is("crowd(" + c + ", 1)", x.crowd(c, 1), heads[c]);
        }
        is("crowd(5, 0)", x.crowd(5, 0), BAD);
        is("crowd(-1, 0)", x.crowd(-1, 0), BAD);
        is("crowd(0, 2)", x.crowd(0, 2), BAD);
        is("crowd(0, -1)", x.crowd(0, -1), BAD);
    }

    private void roomsAreTold() {
        due.part("15 room");
        MostRooms x = Due.with(FIVE);
        is("room(0, 0)", x.room(0, 0), 9);
        is("room(1, 0)", x.room(1, 0), 5);
        is("room(2, 0)", x.room(2, 0), 20);
        is("room(0, 1)", x.room(0, 1), 7);
        is("room(1, 1): more than SEATS", x.room(1, 1), 12);
        is("room(2, 1)", x.room(2, 1), 3);
        is("room(0, 2)", x.room(0, 2), 6);
        is("room(1, 2)", x.room(1, 2), 5);
        is("room(2, 2)", x.room(2, 2), 3);
        is("room(3, 0)", x.room(3, 0), BAD);
        is("room(-1, 0)", x.room(-1, 0), BAD);
        is("room(0, 3)", x.room(0, 3), BAD);
        is("room(0, -1)", x.room(0, -1), BAD);
    }

    private void aheadIsForetold() {
        due.part("16 ahead");
        MostRooms x = Due.with(FIVE);
        is("ahead(0, 0)", x.ahead(0, 0), 0);
        is("ahead(0, 1)", x.ahead(0, 1), 1);
        is("ahead(4, 1)", x.ahead(4, 1), 2);
        is("ahead(4, 2)", x.ahead(4, 2), 0);
        is("ahead(4, 59)", x.ahead(4, 59), 2);
        is("ahead(4, 60)", x.ahead(4, 60), 0);
        is("crowd(4, 0): nothing changes", x.crowd(4, 0), 0);
        is("count(3): nothing changes", x.count(3), 0);
        is("count(4): nothing changes", x.count(4), 0);
        is("ahead(4, 61)", x.ahead(4, 61), BAD);
        is("ahead(4, -1)", x.ahead(4, -1), BAD);
        is("ahead(5, 0)", x.ahead(5, 0), BAD);
        is("ahead(-1, 0)", x.ahead(-1, 0), BAD);
        due.part("16 ahead, late");
        MostRooms y = Due.with("room 1;room 1;door 0 1;crowd late 0 2;crowd stay 0 3;crowd stay 1 4;");
        y.bell();
        y.heads(2, 9);
        is("ahead(0, 1): by what was", y.ahead(0, 1), 0);
        is("ahead(0, 2)", y.ahead(0, 2), 1);
        is("bell(): what was stays", y.bell(), 0);
    }

    private void worthIsForetold() {
        due.part("17 roomAhead");
        MostRooms x = Due.with(TWO);
        is("roomAhead(0, 0, 0)", x.roomAhead(0, 0, 0), 5);
        is("roomAhead(0, 1, 0)", x.roomAhead(0, 1, 0), 0);
        is("roomAhead(1, 1, 0)", x.roomAhead(1, 1, 0), 13);
        is("roomAhead(1, 60, 0)", x.roomAhead(1, 60, 0), 13);
        is("roomAhead(0, 0, 1)", x.roomAhead(0, 0, 1), 0);
        is("roomAhead(0, 9, 1): from the next BELL on", x.roomAhead(0, 9, 1), 0);
        is("roomAhead(1, 1, 1): SEATS at most", x.roomAhead(1, 1, 1), 4);
        is("roomAhead(1, 60, 1)", x.roomAhead(1, 60, 1), 240);
        is("roomAhead(1, 61, 0)", x.roomAhead(1, 61, 0), BAD);
        is("roomAhead(1, 61, 1)", x.roomAhead(1, 61, 1), BAD);
        is("roomAhead(1, -1, 0)", x.roomAhead(1, -1, 0), BAD);
        is("roomAhead(2, 0, 0)", x.roomAhead(2, 0, 0), BAD);
        is("roomAhead(-1, 0, 0)", x.roomAhead(-1, 0, 0), BAD);
        is("roomAhead(0, 0, 2)", x.roomAhead(0, 0, 2), BAD);
        is("roomAhead(0, 0, -1)", x.roomAhead(0, 0, -1), BAD);
        MostRooms y = Due.with("room 9;room 9;door 0 1;crowd few 0 4;");
        is("roomAhead(0, 5, 1): to and fro", y.roomAhead(0, 5, 1), 8);
        is("roomAhead(1, 5, 1)", y.roomAhead(1, 5, 1), 12);
        is("count(3)", y.count(3), 0);
    }

    private void restIsForetold() {
        due.part("18 rest");
        MostRooms x = new MostRooms();
        is("rest(2) of no HOUSE: ahead of BAD", x.rest(2), STATE);
        Due.read(x, TWO);
        is("rest(2)", x.rest(2), BAD);
        is("rest(-1)", x.rest(-1), BAD);
        is("rest(0)", x.rest(0), 1);
        is("rest(1): never again", x.rest(1), NONE);
        x.bell();
        is("rest(0)", x.rest(0), 0);
        is("rest(1)", x.rest(1), 1);
        due.part("18 rest, to and fro");
        MostRooms y = Due.with("room 9;room 9;door 0 1;crowd few 0 4;");
        is("rest(0)", y.rest(0), NONE);
        is("rest(1)", y.rest(1), 2);
        due.part("18 rest, one BELL that moves none is not enough");
        MostRooms z = Due.with("room 1;room 1;door 0 1;crowd late 0 2;crowd stay 0 3;crowd stay 1 4;");
        z.bell();
        z.heads(2, 9);
        is("rest(0)", z.rest(0), 2);
        is("count(3): nothing changes", z.count(3), 1);
    }

    private void headsAreHired() {
        due.part("19 hired");
        MostRooms x = Due.with("room 1;room 1;room 1;door 0 1;door 1 2;crowd most 0 5;crowd stay 1 3;");
        is("hired(0, 1, 0): all are there", x.hired(0, 1, 0), 0);
        is("hired(0, 1, 1): none", x.hired(0, 1, 1), 0);
        is("hired(1, 1, 0)", x.hired(1, 1, 0), 3);
        is("hired(1, 1, 1)", x.hired(1, 1, 1), 1);
        is("hired(2, 1, 0): too far", x.hired(2, 1, 0), NONE);
        is("hired(2, 1, 1)", x.hired(2, 1, 1), NONE);
        is("count(5): nobody came", x.count(5), 8);
        is("room(1, 1)", x.room(1, 1), 3);
        is("count(4)", x.count(4), 0);
        due.part("19 hired, sixty at most");
        MostRooms y = Due.with("room 1;room 1;room 1;door 0 1;crowd most 0 50;crowd stay 0 9;");
        is("hired(1, 20, 0)", y.hired(1, 20, 0), 60);
        is("hired(1, 20, 1)", y.hired(1, 20, 1), 1);
        y.heads(1, 10);
        is("hired(1, 20, 0)", y.hired(1, 20, 0), NONE);
        due.part("19 hired, elsewhere");
        MostRooms z = Due.with("room 1;room 1;room 1;door 0 1;door 0 2;crowd few 0 5;crowd stay 2 2;");
        is("hired(1, 1, 0)", z.hired(1, 1, 0), 0);
        is("hired(2, 1, 0): that fewest are there", z.hired(2, 1, 0), 3);
        is("hired(2, 1, 1)", z.hired(2, 1, 1), 1);
        MostRooms none = Due.with("room 1;room 1;crowd stay 0 5;");
        is("hired(1, 3, 0): 'stay' ones alone", none.hired(1, 3, 0), 0);
        MostRooms two = Due.with("room 1;room 1;crowd most 0 5;crowd most 1 2;");
        is("hired(0, 3, 0)", two.hired(0, 3, 0), NONE);
        MostRooms one = Due.with("room 1;room 1;door 0 1;crowd most 0 5;crowd stay 1 5;");
        is("hired(1, 3, 0): one head is enough", one.hired(1, 3, 0), 1);
        is("hired(1, 3, 1)", one.hired(1, 3, 1), 1);
        is("ahead(0, 1): none is hired any more", one.ahead(0, 1), 0);
        one.hired(1, 3, 0);
        is("rest(0)", one.rest(0), 0);
        one.hired(1, 3, 0);
        is("rest(1)", one.rest(1), 1);
        one.hired(1, 3, 0);
        is("roomAhead(1, 1, 0)", one.roomAhead(1, 1, 0), 5);
        one.hired(1, 3, 0);
        is("apart(0, 1, 3)", one.apart(0, 1, 3), -1);
        one.hired(1, 3, 0);
        is("began(-1, 1)", one.began(-1, 1), 1);
        is("bell()", one.bell(), 0);
        due.part("19 hired, wrong");
        is("hired(3, 1, 0)", x.hired(3, 1, 0), BAD);
        is("hired(-1, 1, 0)", x.hired(-1, 1, 0), BAD);
        is("hired(0, 0, 0)", x.hired(0, 0, 0), BAD);
        is("hired(0, 21, 0)", x.hired(0, 21, 0), BAD);
        is("hired(0, 1, 2)", x.hired(0, 1, 2), BAD);
        is("hired(0, 1, -1)", x.hired(0, 1, -1), BAD);
    }

    private void lateGoesByTheHired() {
        due.part("19 hired, ahead of the latest BELL, too");
        MostRooms x = Due.with("room 1;room 1;door 0 1;crowd late 0 4;");
        is("hired(1, 1, 0) at BELL 0", x.hired(1, 1, 0), 5);
        x.bell();
        x.heads(0, 9);
        is("hired(1, 1, 0): more than were there", x.hired(1, 1, 0), 5);
        is("hired(1, 1, 1)", x.hired(1, 1, 1), 1);
        is("hired(1, 2, 0): as many as it has now, or it goes back", x.hired(1, 2, 0), 9);
        due.part("19 hired, of no SORT");
        MostRooms y = Due.with("room 1;room 1;door 0 1;crowd like 0 1;");
        is("hired(1, 1, 0)", y.hired(1, 1, 0), NONE);
    }

    private void roomsAreEmptied() {
        due.part("20 empty");
        MostRooms x = Due.with("room 1;room 1;room 1;door 0 1;door 1 2;crowd most 0 5;");
        is("empty(1, 1, 0)", x.empty(1, 1, 0), 0);
        is("empty(1, 1, 1)", x.empty(1, 1, 1), 0);
        is("empty(0, 1, 0)", x.empty(0, 1, 0), 6);
        is("empty(0, 1, 1)", x.empty(0, 1, 1), 1);
        MostRooms y = Due.with("room 1;room 1;crowd stay 1 5;");
        is("empty(1, 1, 0): 'stay' ones are there", y.empty(1, 1, 0), NONE);
        is("empty(1, 1, 1)", y.empty(1, 1, 1), NONE);
        is("empty(0, 1, 0)", y.empty(0, 1, 0), 0);
        due.part("20 empty, nobody is hired into it");
        MostRooms z = Due.with("room 1;room 1;door 0 1;crowd few 0 5;crowd stay 1 9;");
        is("hired(1, 1, 0): it goes from where they are hired", z.hired(1, 1, 0), 5);
        is("empty(0, 1, 0)", z.empty(0, 1, 0), NONE);
        MostRooms own = Due.with("room 1;room 1;door 0 1;crowd few 0 5;crowd stay 1 5;");
        is("hired(1, 1, 0)", own.hired(1, 1, 0), 1);
        is("hired(1, 1, 1)", own.hired(1, 1, 1), 0);
        is("empty(0, 1, 0)", own.empty(0, 1, 0), NONE);
        MostRooms least = Due.with("room 1;room 1;room 1;door 2 1;door 0 2;crowd most 2 3;");
        is("empty(2, 1, 0)", least.empty(2, 1, 0), 4);
        is("empty(2, 1, 1): the least ROOM", least.empty(2, 1, 1), 0);
        due.part("20 empty, sixty at most");
        MostRooms many = Due.with("room 1;room 1;door 0 1;crowd most 0 50;crowd most 0 9;");
        is("empty(0, 20, 0)", many.empty(0, 20, 0), 60);
        many.heads(1, 10);
        is("empty(0, 20, 0)", many.empty(0, 20, 0), NONE);
        due.part("20 empty, wrong");
        is("empty(3, 1, 0)", x.empty(3, 1, 0), BAD);
        is("empty(-1, 1, 0)", x.empty(-1, 1, 0), BAD);
        is("empty(0, 0, 0)", x.empty(0, 0, 0), BAD);
        is("empty(0, 21, 0)", x.empty(0, 21, 0), BAD);
        is("empty(0, 1, 2)", x.empty(0, 1, 2), BAD);
        is("empty(0, 1, -1)", x.empty(0, 1, -1), BAD);
    }

    private void crowdsAreKeptApart() {
        due.part("21 apart");
        MostRooms x = Due.with("room 1;room 1;room 1;door 0 1;door 1 2;crowd most 0 2;crowd stay 2 9;crowd stay 1 4;");
        is("apart(0, 1, 1): one BELL is not enough", x.apart(0, 1, 1), -1);
        is("apart(0, 1, 2)", x.apart(0, 1, 2), 1);
        is("apart(1, 0, 60)", x.apart(1, 0, 60), 1);
        x.door(0, 1, 0);
        x.door(0, 2, 1);
        is("apart(0, 1, 5)", x.apart(0, 1, 5), 2);
        is("room(0, 2): nothing changes", x.room(0, 2), 4);
        is("count(4): nothing changes", x.count(4), 2);
        MostRooms y = Due.with("room 1;room 1;room 1;door 0 1;door 1 2;crowd most 2 2;crowd stay 0 9;crowd stay 1 4;");
        is("apart(0, 1, 5): the least of two", y.apart(0, 1, 5), 1);
        is("apart(0, 2, 5): the one of the lesser ROOM is no help", y.apart(0, 2, 5), 8);
        due.part("21 apart, together now");
        MostRooms z = Due.with("room 1;room 1;door 0 1;crowd few 0 2;crowd stay 0 9;");
        is("apart(0, 1, 1): where they are now is not asked", z.apart(0, 1, 1), -1);
        z.door(0, 1, 0);
        is("apart(0, 1, 1)", z.apart(0, 1, 1), NONE);
        due.part("21 apart, wrong");
        is("apart(0, 0, 1)", x.apart(0, 0, 1), BAD);
        is("apart(0, 3, 1)", x.apart(0, 3, 1), BAD);
        is("apart(-1, 0, 1)", x.apart(-1, 0, 1), BAD);
        is("apart(0, 1, 0)", x.apart(0, 1, 0), BAD);
        is("apart(0, 1, 61)", x.apart(0, 1, 61), BAD);
    }

    private void beginningsAreFound() {
        due.part("22 began");
        MostRooms x = new MostRooms();
        is("began(9, 99) of no HOUSE: ahead of BAD", x.began(9, 99), STATE);
        Due.read(x, "room 1;room 1;room 1;door 0 1;door 1 2;crowd most 1 5;crowd stay 1 3;");
        is("began(-1, 0): as it is", x.began(-1, 0), 1);
        is("began(0, 0)", x.began(0, 0), 1);
        is("began(-1, 1): it stayed", x.began(-1, 1), 1);
        is("began(-1, 9)", x.began(-1, 9), 1);
        x.heads(1, 6);
        is("began(-1, 1): or came from either side", x.began(-1, 1), 3);
        is("began(0, 1): the first of them", x.began(0, 1), 0);
        is("began(1, 1)", x.began(1, 1), 1);
        is("crowd(0, 0): nothing changes", x.crowd(0, 0), 1);
        is("count(4)", x.count(4), 1);
        MostRooms y = Due.with("room 1;room 1;door 0 1;crowd most 0 5;crowd stay 1 9;");
        is("began(-1, 1)", y.began(-1, 1), 0);
        is("began(0, 1)", y.began(0, 1), NONE);
        is("began(1, 1)", y.began(1, 1), NONE);
        due.part("22 began, late: BELL 0 is to come");
        MostRooms z = Due.with("room 1;room 1;door 0 1;crowd late 1 2;crowd stay 1 4;");
        z.bell();
        z.heads(0, 9);
        is("began(-1, 1)", z.began(-1, 1), 1);
        is("began(0, 1): not from where it was", z.began(0, 1), 1);
        z.heads(0, 1);
        is("began(-1, 1)", z.began(-1, 1), 2);
        is("began(0, 2)", z.began(0, 2), 0);
        is("count(3)", z.count(3), 1);
        due.part("22 began, no CROWD and wrong");
        MostRooms none = Due.with("room 1;room 1;");
        is("began(-1, 4)", none.began(-1, 4), 1);
        is("began(0, 4)", none.began(0, 4), BAD);
        is("began(2, 1)", x.began(2, 1), BAD);
        is("began(-2, 1)", x.began(-2, 1), BAD);
        is("began(-1, 10)", x.began(-1, 10), BAD);
        is("began(-1, -1)", x.began(-1, -1), BAD);
    }

    private void imagesAreKept() {
        due.part("23 image, 24 restore");
        MostRooms x = new MostRooms();
        is("image(0) of no HOUSE", x.image(0), STATE);
        is("image(2) of no HOUSE: BAD ahead of STATE", x.image(2), BAD);
        is("restore(-1): BAD ahead of STATE", x.restore(-1), BAD);
        Due.read(x, TWO);
        x.heads(0, 7);
        x.bell();
        is("image(1)", x.image(1), 1);
        is("count(4): ACTS stay", x.count(4), 2);
        is("restore(0): none was kept", x.restore(0), STATE);
        is("image(-1)", x.image(-1), BAD);
        x.door(0, 1, 0);
        x.heads(1, 1);
        x.bell();
        is("restore(1)", x.restore(1), 1);
        is("count(3)", x.count(3), 1);
        is("count(4): no ACT can be undone", x.count(4), 0);
        is("undo()", x.undo(), STATE);
        is("crowd(0, 0)", x.crowd(0, 0), 1);
        is("crowd(0, 1)", x.crowd(0, 1), 7);
        is("crowd(1, 1)", x.crowd(1, 1), 8);
        is("room(0, 2)", x.room(0, 2), 2);
        x.heads(0, 33);
        is("restore(1): the IMAGE stays", x.restore(1), 1);
        is("crowd(0, 1)", x.crowd(0, 1), 7);
        is("restore(2)", x.restore(2), BAD);
        due.part("23 image, of a HOUSE with a LATE one");
        MostRooms y = Due.with("room 8;room 1;door 0 1;crowd late 0 2;crowd stay 0 3;crowd stay 1 4;");
        y.bell();
        y.heads(2, 9);
        y.image(0);
        Due.read(y, "room 1;crowd most 0 1;");
        y.image(1);
        is("restore(0)", y.restore(0), 1);
        is("room(0, 0)", y.room(0, 0), 8);
        is("kind(2)", y.kind(2), 4);
        is("bell(): by what was ahead of the BELL before", y.bell(), 0);
        is("bell()", y.bell(), 1);
        is("restore(1)", y.restore(1), 1);
        is("count(1)", y.count(1), 1);
        is("kind(0)", y.kind(0), 1);
    }

    private void kindsAreTold() {
        due.part("25 kind");
        MostRooms x = Due.with(FIVE);
        for (int c = 0; c < 5; c++) {
            is("kind(" + c + ")", x.kind(c), c + 1);
        }
        is("kind(5)", x.kind(5), BAD);
        is("kind(-1)", x.kind(-1), BAD);
    }

    private void crowdsAreTakenAs() {
        due.part("26 as");
        MostRooms x = Due.with(FIVE);
        int[] kinds = {0b000011, 0b000111, 0b001011, 0b010001, 0b110001};
        for (int c = 0; c < 5; c++) {
            for (int k = 0; k <= 5; k++) {
                boolean is = (kinds[c] >> k & 1) == 1;
                is("as(" + c + ", " + k + ")", x.as(c, k), is ? c : KIND);
                is("status()", x.status(), is ? 0 : 3);
            }
        }
        is("as(0, 6)", x.as(0, 6), BAD);
        is("as(0, -1)", x.as(0, -1), BAD);
        is("as(5, 0)", x.as(5, 0), BAD);
        is("as(-1, 0)", x.as(-1, 0), BAD);
    }

    private void asked(MostRooms x, int crowd, int what, int want, int... trace) {
        is("ask(" + crowd + ", " + what + ")", x.ask(crowd, what), want);
        for (int i = 0; i < trace.length; i++) {
            is("trace(" + i + ") of ask(" + crowd + ", " + what + ")", x.trace(i), trace[i]);
        }
        is("trace(" + trace.length + ")", x.trace(trace.length), NONE);
    }

    private void asksAreAnswered() {
        due.part("27 ask");
        MostRooms x = Due.with(FIVE);
        x.bell();
        asked(x, 0, 0, 5 + 1, 11, 10, 21, 20);
        asked(x, 0, 1, 1, 21, 20);
        asked(x, 1, 0, -(4 + 2 * (1 + 1)), 12, 11, 10, 24, 21, 20);
        asked(x, 1, 1, 2 * (1 + 1), 24, 21, 20);
        asked(x, 2, 0, 3 + 2 + 1 - 1000, 11, 10, 22, 21, 20);
        asked(x, 2, 1, 2 + 1 - 1000, 22, 21, 20);
        asked(x, 3, 0, 8 - 100, 13, 10);
        asked(x, 3, 1, 3 - (8 - 100), 23, 20, 13, 10);
        asked(x, 4, 0, 2 * (2 - 100), 14, 13, 10);
        asked(x, 4, 1, 4 - 2 * (2 - 100), 23, 20, 14, 13, 10);
        x.heads(0, 50);
        asked(x, 0, 0, 51, 11, 10, 21, 20);
    }

    private void tracesAreLeft() {
        due.part("28 trace");
        MostRooms x = Due.with(FIVE);
        x.ask(4, 0);
        is("ask(5, 0)", x.ask(5, 0), BAD);
        is("ask(-1, 0)", x.ask(-1, 0), BAD);
        is("ask(0, 2)", x.ask(0, 2), BAD);
        is("ask(0, -1)", x.ask(0, -1), BAD);
        is("trace(0): it stays", x.trace(0), 14);
        is("trace(2)", x.trace(2), 10);
        is("trace(3)", x.trace(3), NONE);
        is("trace(-1)", x.trace(-1), NONE);
        is("trace(16)", x.trace(16), NONE);
        is("trace(MAX)", x.trace(MAX), NONE);
        is("trace(MIN)", x.trace(MIN), NONE);
        Due.read(x, "room 1;");
        x.bell();
        is("trace(0): it stays", x.trace(0), 14);
    }

    private void countsAreTold() {
        due.part("29 count");
        MostRooms x = Due.with(FIVE);
        x.row(1, 0, 1);
        x.row(5, 2, 40);
        x.bell();
        x.bell();
        x.heads(0, 6);
        x.feed(0, 3);
        int[] counts = {2, 3, 5, 2, 3, 23, 3};
        for (int what = 0; what <= 6; what++) {
            is("count(" + what + ")", x.count(what), counts[what]);
        }
        is("count(7)", x.count(7), BAD);
        is("count(-1)", x.count(-1), BAD);
        x.undo();
        x.undo();
        is("count(3)", x.count(3), 1);
        is("count(4)", x.count(4), 1);
        is("count(5)", x.count(5), 22);
    }

    private void statusIsTold() {
        due.part("30 status");
        MostRooms x = new MostRooms();
        x.set(0, 0, 0);
        is("NULL", x.status(), 1);
        x.row(0, 0, 30);
        is("none", x.status(), 0);
        x.set(0, 30, 0);
        is("PLACE", x.status(), 2);
        x.set(0, 0, 1);
        is("none", x.status(), 0);
        x.row(1, 0, -5);
        is("SIZE", x.status(), 4);
        x.row(1, 9, 1);
        x.set(9, 0, 0);
        x.copy(9, 0, 0, 0, 0);
        x.drop(9);
        x.bells(0, 0, 1);
        x.as(0, 0);
        x.house();
        x.feed(0, 0);
        is("BAD and STATE do not count, nor do calls without a ROW", x.status(), 4);
        x.row(1, 1, 30);
        x.copy(0, 0, 1, 0, 1);
        is("STORE", x.status(), 5);
        x.copy(0, 0, 0, 1, 1);
        is("none", x.status(), 0);
        x.drop(4);
        is("NULL", x.status(), 1);
        x.drop(1);
        is("none", x.status(), 0);
        Due.read(x, FIVE);
        x.as(0, 5);
        is("KIND", x.status(), 3);
        x.bell();
        x.ask(0, 0);
        x.heads(0, 99);
        is("it stays", x.status(), 3);
        is("bells(0, 0, 2)", x.bells(0, 0, 2), FULL);
        is("FULL does not count", x.status(), 3);
        x.set(0, 3, 32);
        x.as(0, 5);
        is("bells(0, 3, 1)", x.bells(0, 3, 1), BAD);
        is("BAD of an ITEM does not count", x.status(), 3);
        is("bells(0, 4, 1)", x.bells(0, 4, 1), 99 + 4 + 3 + 8 + 2);
        is("none", x.status(), 0);
        x.bells(0, 29, 2);
        is("PLACE of bells()", x.status(), 2);
        x.bells(1, 0, 2);
        is("NULL of bells()", x.status(), 1);
        x.as(0, 1);
        is("none", x.status(), 0);
    }
}

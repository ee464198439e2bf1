/** Promises 9 to 15: each sentence of the document on BELLS and ACTS that names a boundary, by a test of its own. */
public final class BellEdgesTest {
    private static final int BAD = -1000001, STATE = -1000002, FULL = -1000003, NULL = -1000011, PLACE = -1000012;
    private static final int MIN = Integer.MIN_VALUE, MAX = Integer.MAX_VALUE;
    private static final String TWO = "room 1;room 1;door 0 1;";
    private static final String SIX = "room 1;".repeat(6);
    /** Room 3 sees each of the others. */
    private static final String STAR = "room 1;room 1;room 1;room 1;door 3 0;door 3 1;door 3 2;";

    private final Due due = new Due();

    public static void main(String[] args) {
        BellEdgesTest t = new BellEdgesTest();
        t.headsInARoomAreOfAllCrowdsThere();
        t.aBellTellsTheCrowdsThatWent();
        t.allGoAtOnce();
        t.mostStaysAmongEquals();
        t.fewStaysAmongEquals();
        t.likeStaysAmongEquals();
        t.lateStaysAmongEquals();
        t.elseItIsTheLeastRoom();
        t.seenRoomsAloneAreGoneTo();
        t.seatsBoundNobody();
        t.likeLooksAtItsSortAlone();
        t.lateGoesAtBellNoughtAsItIs();
        t.lateGoesByTheBellBefore();
        t.bellsAreNothingWithoutAHouse();
        t.bellsGoTo9999();
        t.bellsByARowGoTo9999();
        t.bellsAreOneToTwentyFour();
        t.bellsHaveTheirPlaces();
        t.itemsAreSetsOfCrowds();
        t.headsByARowGoTo99();
        t.headsComeBehindTheBell();
        t.refusalsOfBellsComeInTheirOrder();
        t.doorsAreBetweenTwoRooms();
        t.aDoorTellsHowItWas();
        t.headsGoFromOneTo99();
        t.actsAre24AtMost();
        t.theOldestActIsForgotten();
        t.actsOfEachKindAreUndone();
        t.actsInTheLastRoomOfTheLastCrowd();
        t.actsByWhichNothingBecomesAnother();
        t.eachBellOfARowIsAnAct();
        t.noneCanBeUndone();
        t.crowdsAreTold();
        t.roomsAreTold();
        t.due.end();
    }

    private void is(String call, long got, long want) {
        due.is(call, got, want);
    }

    private void headsInARoomAreOfAllCrowdsThere() {
        due.part("IN a ROOM are the HEADS of all CROWDS there");
        MostRooms x = Due.with(SIX + "crowd stay 5 50;".repeat(5));
        is("room(5, 1)", x.room(5, 1), 250);
        is("room(0, 1): nobody", x.room(0, 1), 0);
        for (int c = 0; c < 5; c++) {
            x.heads(c, 99);
        }
        is("room(5, 1): all that can be", x.room(5, 1), 495);
        is("count(5)", x.count(5), 495);
        is("room(0, 1)", Due.with("room 1;").room(0, 1), 0);
    }

    private void aBellTellsTheCrowdsThatWent() {
        due.part("bell: A BELL: CROWDS (bits) that went");
        is("none is there", Due.with("room 1;").bell(), 0);
        is("none goes", Due.with(TWO + "crowd stay 0 1;crowd most 0 1;").bell(), 0);
        is("the last", Due.with(TWO + "crowd stay 1 1;".repeat(4) + "crowd few 1 1;").bell(), 16);
        MostRooms x = Due.with(TWO + "crowd few 0 1;".repeat(5));
        is("all", x.bell(), 31);
        is("all back", x.bell(), 31);
        is("count(3)", x.count(3), 2);
    }

    private void allGoAtOnce() {
        due.part("At a BELL each CROWD goes, all at once, as all was ahead of it");
        MostRooms x = Due.with(TWO + "crowd most 0 2;crowd few 1 3;");
        is("bell()", x.bell(), 3);
        is("crowd(0, 0)", x.crowd(0, 0), 1);
        is("crowd(1, 0)", x.crowd(1, 0), 0);
        MostRooms y = Due.with(TWO + "crowd few 0 3;crowd few 0 3;crowd few 1 5;");
        is("bell(): none looks where another has gone", y.bell(), 3);
    }

    private void goes(String crowds, int went) {
        is("bell() of " + crowds, Due.with(TWO + crowds).bell(), went);
    }

    private void mostStaysAmongEquals() {
        due.part("Of several it stays in its own: 'most'");
        goes("crowd most 0 5;crowd stay 1 4;", 0);
        goes("crowd most 0 5;crowd stay 1 5;", 0);
        goes("crowd most 0 5;crowd stay 1 6;", 1);
        goes("crowd most 1 5;crowd stay 0 5;", 0);
        goes("crowd most 1 5;crowd stay 0 6;", 1);
    }

    private void fewStaysAmongEquals() {
        due.part("Of several it stays in its own: 'few'");
        goes("crowd few 0 5;crowd stay 1 6;", 0);
        goes("crowd few 0 5;crowd stay 1 5;", 0);
        goes("crowd few 0 5;crowd stay 1 4;", 1);
        goes("crowd few 1 5;crowd stay 0 5;", 0);
        goes("crowd few 1 5;crowd stay 0 4;", 1);
    }

    private void likeStaysAmongEquals() {
        due.part("Of several it stays in its own: 'like'");
        goes("crowd like 0 5;crowd like 1 5;", 0);
        goes("crowd like 0 5;crowd like 1 6;", 1);
        goes("crowd like 0 6;crowd like 1 5;", 2);
    }

    private void lateStaysAmongEquals() {
        due.part("Of several it stays in its own: 'late'");
        goes("crowd late 0 5;crowd stay 1 5;", 0);
        goes("crowd late 0 5;crowd stay 1 6;", 1);
        goes("crowd late 1 5;crowd stay 0 5;", 0);
        MostRooms x = Due.with(TWO + "crowd late 1 5;crowd stay 0 5;");
        x.bell();
        x.heads(1, 6);
        is("bell() 1: equal at the BELL before", x.bell(), 0);
        is("bell() 2", x.bell(), 1);
    }

    private void fromThree(String crowds, int goal) {
        MostRooms x = Due.with(STAR + crowds);
        x.bell();
        is("crowd(0, 0) of " + crowds, x.crowd(0, 0), goal);
    }

    private void elseItIsTheLeastRoom() {
        due.part("else it is the ROOM of the least number");
        fromThree("crowd few 3 1;", 0);
        fromThree("crowd few 3 3;crowd stay 0 1;", 1);
        fromThree("crowd few 3 3;crowd stay 0 2;crowd stay 1 1;crowd stay 2 1;", 1);
        fromThree("crowd most 3 3;crowd stay 0 4;crowd stay 1 4;crowd stay 2 4;", 0);
        fromThree("crowd most 3 3;crowd stay 1 4;crowd stay 2 4;", 1);
        fromThree("crowd most 3 3;crowd stay 1 4;crowd stay 2 5;", 2);
        fromThree("crowd late 3 3;crowd stay 1 4;crowd stay 2 4;", 1);
        fromThree("crowd like 3 3;crowd like 2 4;crowd like 1 4;", 1);
    }

    private void seenRoomsAloneAreGoneTo() {
        due.part("of its own ROOM and those that are seen from it");
        MostRooms x = Due.with("room 1;room 1;room 1;door 0 1;door 1 2;crowd most 0 1;crowd stay 2 9;crowd few 0 1;");
        is("bell(): two DOORS away is not seen", x.bell(), 4);
        is("crowd(2, 0)", x.crowd(2, 0), 1);
        is("bell() without a DOOR", Due.with("room 1;room 1;crowd most 0 1;crowd stay 1 9;crowd few 1 1;").bell(), 0);
    }

    private void seatsBoundNobody() {
        due.part("'most': to where most are IN (SEATS bound WORTH alone)");
        MostRooms x = Due.with("room 9;room 0;door 0 1;crowd most 0 5;crowd stay 1 6;");
        is("bell() into a ROOM without SEATS", x.bell(), 1);
        is("room(1, 1)", x.room(1, 1), 11);
    }

    private void likeLooksAtItsSortAlone() {
        due.part("'like': to where most HEADS of its SORT are");
        fromThree("crowd like 3 1;crowd most 0 50;crowd late 1 50;crowd few 2 50;crowd stay 0 50;", 3);
        fromThree("crowd like 3 1;crowd stay 0 50;crowd like 2 2;", 2);
        fromThree("crowd like 3 2;crowd like 1 1;crowd like 1 2;crowd like 0 2;", 1);
    }

    private void lateGoesAtBellNoughtAsItIs() {
        due.part("'late' (at BELL 0: as it is)");
        String text = TWO + "crowd late 0 5;crowd stay 1 4;";
        MostRooms x = Due.with(text);
        x.heads(1, 6);
        is("bell() 0: as it is now", x.bell(), 1);
        MostRooms y = Due.with(text);
        y.bell();
        y.heads(1, 6);
        y.undo();
        y.undo();
        is("count(3)", y.count(3), 0);
        y.heads(1, 6);
        is("bell() 0 behind undo()", y.bell(), 1);
        MostRooms z = Due.with(text);
        z.image(0);
        z.bell();
        z.restore(0);
        z.heads(1, 6);
        is("bell() 0 behind restore()", z.bell(), 1);
    }

    private void lateGoesByTheBellBefore() {
        due.part("'late': by how many were IN ahead of the BELL before");
        MostRooms x = Due.with(TWO + "crowd late 0 5;crowd stay 1 4;");
        is("bell() 0", x.bell(), 0);
        x.heads(1, 6);
        is("bell() 1: by what was ahead of BELL 0", x.bell(), 0);
        x.heads(1, 1);
        is("bell() 2: by what was ahead of BELL 1", x.bell(), 1);
        is("bell() 3: by what was ahead of BELL 2", x.bell(), 1);
        is("bell() 4: by what was ahead of BELL 3, it among them", x.bell(), 1);
        is("crowd(0, 0)", x.crowd(0, 0), 1);
        MostRooms y = Due.with("room 1;room 1;room 1;door 0 1;door 1 2;crowd late 2 1;crowd most 0 2;crowd stay 1 3;");
        is("bell() 0: both go", y.bell(), 3);
        MostRooms z = Due.with(TWO + "crowd late 0 1;crowd few 1 3;");
        is("bell() 0: they change places", z.bell(), 3);
        is("bell() 1: late stays where more were; few goes back", z.bell(), 2);
    }

    private void bellsAreNothingWithoutAHouse() {
        due.part("STATE: no HOUSE");
        MostRooms x = new MostRooms();
        is("bell()", x.bell(), STATE);
        x.row(0, 0, 1);
        is("bells(0, 0, 1)", x.bells(0, 0, 1), STATE);
        is("bells(8, 0, 1): ahead of BAD", x.bells(8, 0, 1), STATE);
        is("bells(0, 0, 0): ahead of BAD", x.bells(0, 0, 0), STATE);
        is("bells(0, 0, 25): ahead of BAD", x.bells(0, 0, 25), STATE);
        is("bells(1, 0, 1): ahead of NULL", x.bells(1, 0, 1), STATE);
        is("bells(0, 1, 1): ahead of PLACE", x.bells(0, 1, 1), STATE);
        is("status()", x.status(), 0);
        is("count(3)", x.count(3), 0);
        is("count(4)", x.count(4), 0);
    }

    /** 9984 BELLS are gone. */
    private static MostRooms nearTheEnd() {
        MostRooms x = Due.with(TWO + "crowd few 0 1;");
        x.row(0, 0, 24);
        for (int k = 0; k < 416; k++) {
            x.bells(0, 0, 24);
        }
        return x;
    }

    private void bellsGoTo9999() {
        due.part("bell: FULL: 9999 are gone");
        MostRooms x = nearTheEnd();
        for (int k = 9985; k <= 9999; k++) {
            is("bell()", x.bell(), 1);
            is("count(3)", x.count(3), k);
        }
        is("bell()", x.bell(), FULL);
        is("count(3)", x.count(3), 9999);
        is("count(4)", x.count(4), 24);
        is("crowd(0, 0)", x.crowd(0, 0), 1);
        is("undo()", x.undo(), 23);
        is("bell() again", x.bell(), 1);
        is("bell()", x.bell(), FULL);
        is("heads(0, 2): an ACT yet", x.heads(0, 2), 1);
        Due.read(x, TWO + "crowd few 0 1;");
        is("bell() in a HOUSE anew", x.bell(), 1);
        is("count(3)", x.count(3), 1);
    }

    private void bellsByARowGoTo9999() {
        due.part("bells: FULL: more than 9999 BELLS would be gone");
        MostRooms x = nearTheEnd();
        for (int n = 16; n <= 24; n++) {
            is("bells(0, 0, " + n + ")", x.bells(0, 0, n), FULL);
        }
        is("count(3): none rang", x.count(3), 9984);
        is("crowd(0, 0)", x.crowd(0, 0), 0);
        is("bells(0, 0, 15)", x.bells(0, 0, 15), 1);
        is("count(3)", x.count(3), 9999);
        is("bells(0, 0, 1)", x.bells(0, 0, 1), FULL);
        x.undo();
        is("bells(0, 0, 2)", x.bells(0, 0, 2), FULL);
        is("bells(0, 0, 1)", x.bells(0, 0, 1), 1);
        is("count(3)", x.count(3), 9999);
    }

    private void bellsAreOneToTwentyFour() {
        due.part("bells: n ITEMS (1 to 24); BAD: ROW, n");
        MostRooms x = Due.with(TWO + "crowd few 0 1;");
        x.row(0, 0, 40);
        x.row(7, 0, 40);
        is("bells(0, 0, 1)", x.bells(0, 0, 1), 1);
        is("count(3)", x.count(3), 1);
        is("bells(7, 0, 24)", x.bells(7, 0, 24), 1);
        is("count(3)", x.count(3), 25);
        for (int n : new int[] {0, 25, -1, 40, MIN, MAX}) {
            is("bells(0, 0, " + n + ")", x.bells(0, 0, n), BAD);
        }
        for (int row : new int[] {-1, 8, MIN, MAX}) {
            is("bells(" + row + ", 0, 1)", x.bells(row, 0, 1), BAD);
        }
        is("count(3)", x.count(3), 25);
    }

    private void bellsHaveTheirPlaces() {
        due.part("bells: n ITEMS from i on; NULL; PLACE");
        MostRooms x = Due.with(TWO + "crowd stay 0 1;");
        x.row(0, 1, 40);
        x.row(1, 1, 0);
        x.set(0, 39, 1);
        x.set(0, 15, -5);
        is("bells(0, 39, 1): the last", x.bells(0, 39, 1), 2);
        is("bells(0, 16, 24): to the last", x.bells(0, 16, 24), 3);
        is("bells(0, 0, 15): to the one that is no set", x.bells(0, 0, 15), 3);
        is("bells(0, 17, 24)", x.bells(0, 17, 24), PLACE);
        is("bells(0, 39, 2)", x.bells(0, 39, 2), PLACE);
        is("bells(1, 0, 1): one without ITEMS", x.bells(1, 0, 1), PLACE);
        for (int i : new int[] {-1, 40, MIN, MAX, MAX - 23}) {
            is("bells(0, " + i + ", 1)", x.bells(0, i, 1), PLACE);
            is("bells(0, " + i + ", 24)", x.bells(0, i, 24), PLACE);
            is("bells(2, " + i + ", 1): NULL ahead of PLACE", x.bells(2, i, 1), NULL);
        }
        is("count(3)", x.count(3), 40);
    }

    private void itemsAreSetsOfCrowds() {
        due.part("bells: then BAD: an ITEM that is no set of CROWDS");
        for (int crowds = 0; crowds <= 5; crowds++) {
            MostRooms x = Due.with("room 1;" + "crowd stay 0 1;".repeat(crowds));
            x.row(0, 2, 1);
            int all = (1 << crowds) - 1;
            x.set(0, 0, all);
            is("the set of all of " + crowds, x.bells(0, 0, 1), 2 * crowds);
            for (int c = 0; c < crowds; c++) {
                is("crowd(" + c + ", 1)", x.crowd(c, 1), 2);
            }
            x.set(0, 0, 0);
            is("the set of none of " + crowds, x.bells(0, 0, 1), 2 * crowds);
            for (int no : new int[] {all + 1, -1, 1 << crowds + 1, 64, 128, 1 << 20, MIN, MAX, MIN + all}) {
                x.set(0, 0, no);
                is("the item " + no + " of " + crowds, x.bells(0, 0, 1), BAD);
            }
            is("count(3)", x.count(3), 2);
            is("count(5)", x.count(5), 2 * crowds);
        }
        MostRooms y = Due.with("room 1;crowd stay 0 1;");
        y.row(0, 0, 3);
        y.set(0, 0, 1);
        y.set(0, 2, 2);
        is("the last of three is no set", y.bells(0, 0, 3), BAD);
        is("crowd(0, 1): none rang", y.crowd(0, 1), 1);
        is("bells(0, 0, 2)", y.bells(0, 0, 2), 2);
    }

    private void headsByARowGoTo99() {
        due.part("bells: FULL: a CROWD would have more than 99");
        for (int c = 0; c < 5; c++) {
            MostRooms x = Due.with("room 1;" + "crowd stay 0 1;".repeat(5));
            x.row(0, 0, 24);
            for (int i = 0; i < 24; i++) {
                x.set(0, i, 1 << c);
            }
            x.heads(c, 76);
            is("bells(0, 0, 24): to 100", x.bells(0, 0, 24), FULL);
            is("crowd(c, 1): none came", x.crowd(c, 1), 76);
            is("count(3)", x.count(3), 0);
            is("bells(0, 0, 23): to 99", x.bells(0, 0, 23), 103);
            is("crowd(c, 1)", x.crowd(c, 1), 99);
            is("bells(0, 0, 1)", x.bells(0, 0, 1), FULL);
            x.heads(c, 98);
            is("bells(0, 0, 2)", x.bells(0, 0, 2), FULL);
            is("bells(0, 0, 1)", x.bells(0, 0, 1), 103);
        }
    }

    private void headsComeBehindTheBell() {
        due.part("bells: behind each the CROWDS of an ITEM (bits) are 1 HEAD more: HEADS of all then");
        MostRooms x = Due.with(TWO + "crowd most 0 4;crowd stay 1 4;");
        x.row(0, 0, 2);
        x.set(0, 0, 2);
        is("bells(0, 0, 1)", x.bells(0, 0, 1), 9);
        is("crowd(0, 0): 4 were there ahead of it", x.crowd(0, 0), 0);
        is("bells(0, 1, 1)", x.bells(0, 1, 1), 9);
        is("crowd(0, 0): 5 were there ahead of it", x.crowd(0, 0), 1);
        is("a HOUSE without CROWDS", noCrowds(), 0);
    }

    private static int noCrowds() {
        MostRooms x = Due.with("room 1;");
        x.row(0, 0, 24);
        return x.bells(0, 0, 24);
    }

    private void refusalsOfBellsComeInTheirOrder() {
        due.part("bells: BAD: ROW, n; NULL; PLACE; then BAD: an ITEM; FULL");
        MostRooms x = Due.with("room 1;crowd stay 0 50;");
        x.row(0, 0, 4);
        x.set(0, 0, 1);
        x.set(0, 1, 2);
        x.heads(0, 99);
        is("BAD n ahead of NULL", x.bells(1, 0, 0), BAD);
        is("BAD n ahead of PLACE", x.bells(0, 40, 25), BAD);
        is("NULL ahead of PLACE", x.bells(1, 40, 1), NULL);
        is("PLACE ahead of an ITEM", x.bells(0, 1, 4), PLACE);
        is("PLACE ahead of FULL", x.bells(0, 0, 5), PLACE);
        is("an ITEM ahead of FULL", x.bells(0, 0, 2), BAD);
        is("FULL", x.bells(0, 0, 1), FULL);
        is("status(): of the latest that was not BAD, STATE, FULL", x.status(), 2);
        is("count(3)", x.count(3), 0);
        is("count(4): heads() alone", x.count(4), 1);
    }

    private void doorsAreBetweenTwoRooms() {
        due.part("door: made (1), or shut (0). BAD: alike, too");
        MostRooms x = Due.with(SIX);
        for (int a = 0; a < 6; a++) {
            for (int b = 0; b < 6; b++) {
                for (int is = 0; is <= 1; is++) {
                    int want = a == b ? BAD : is == 0 && a > b ? 1 : 0;
                    is("door(" + a + ", " + b + ", " + is + ")", x.door(a, b, is), want);
                }
            }
            is("door(" + a + ", 6, 1)", x.door(a, 6, 1), BAD);
            is("door(" + a + ", -1, 1)", x.door(a, -1, 1), BAD);
            is("door(6, " + a + ", 1)", x.door(6, a, 1), BAD);
            is("door(-1, " + a + ", 1)", x.door(-1, a, 1), BAD);
        }
        for (int is : new int[] {-1, 2, 3, MIN, MAX}) {
            is("door(0, 1, " + is + ")", x.door(0, 1, is), BAD);
        }
        is("door(0, 3, 1) of three ROOMS", Due.with("room 1;room 1;room 1;").door(0, 3, 1), BAD);
        is("door(0, 0, 1) of one ROOM", Due.with("room 1;").door(0, 0, 1), BAD);
    }

    private void aDoorTellsHowItWas() {
        due.part("door: how it was");
        MostRooms x = Due.with(SIX + "door 0 1;".repeat(12));
        is("door(1, 0, 1)", x.door(1, 0, 1), 1);
        is("door(0, 1, 0): told twelve times, it is shut", x.door(0, 1, 0), 1);
        is("room(0, 2)", x.room(0, 2), 0);
        is("door(1, 0, 0)", x.door(1, 0, 0), 0);
        for (int a = 0; a < 6; a++) {
            for (int b = a + 1; b < 6; b++) {
                is("door(" + b + ", " + a + ", 1)", x.door(b, a, 1), 0);
            }
        }
        for (int r = 0; r < 6; r++) {
            is("room(" + r + ", 2): all fifteen are made", x.room(r, 2), 63 - (1 << r));
        }
        is("door(4, 5, 0)", x.door(4, 5, 0), 1);
        is("room(5, 2)", x.room(5, 2), 15);
        is("room(4, 2)", x.room(4, 2), 15);
    }

    private void headsGoFromOneTo99() {
        due.part("heads: as many HEADS (1 to 99): how many it had. BAD");
        MostRooms x = Due.with("room 1;" + "crowd stay 0 50;".repeat(5));
        is("heads(0, 1)", x.heads(0, 1), 50);
        is("heads(0, 99)", x.heads(0, 99), 1);
        is("heads(4, 99)", x.heads(4, 99), 50);
        is("heads(4, 1)", x.heads(4, 1), 99);
        for (int n : new int[] {0, 100, -1, MIN, MAX}) {
            is("heads(0, " + n + ")", x.heads(0, n), BAD);
        }
        for (int crowd : new int[] {-1, 5, MIN, MAX}) {
            is("heads(" + crowd + ", 1)", x.heads(crowd, 1), BAD);
        }
        is("crowd(0, 1)", x.crowd(0, 1), 99);
        is("crowd(4, 1)", x.crowd(4, 1), 1);
        is("count(4)", x.count(4), 4);
        is("heads(0, 1) without CROWDS", Due.with("room 1;").heads(0, 1), BAD);
    }

    private void actsAre24AtMost() {
        due.part("ACTS (24 at most are kept, of more the oldest is forgotten)");
        MostRooms x = Due.with("room 1;crowd stay 0 50;");
        for (int n = 1; n <= 24; n++) {
            x.heads(0, n);
            is("count(4)", x.count(4), n);
        }
        for (int n = 23; n >= 0; n--) {
            is("undo()", x.undo(), n);
            is("crowd(0, 1)", x.crowd(0, 1), n == 0 ? 50 : n);
        }
        is("undo()", x.undo(), STATE);
        for (int n = 1; n <= 25; n++) {
            x.heads(0, n);
        }
        is("count(4)", x.count(4), 24);
        for (int n = 23; n >= 0; n--) {
            is("undo()", x.undo(), n);
        }
        is("crowd(0, 1): the first of 25 cannot be undone", x.crowd(0, 1), 1);
        is("undo()", x.undo(), STATE);
    }

    private void theOldestActIsForgotten() {
        due.part("of more the oldest is forgotten: a BELL, a DOOR, HEADS");
        MostRooms x = Due.with(TWO + "crowd few 0 50;");
        x.bell();
        x.door(0, 1, 0);
        x.heads(0, 2);
        for (int n = 1; n <= 24; n++) {
            x.heads(0, n + 10);
        }
        for (int n = 1; n <= 24; n++) {
            x.undo();
        }
        is("undo()", x.undo(), STATE);
        is("count(3)", x.count(3), 1);
        is("room(0, 2)", x.room(0, 2), 0);
        is("crowd(0, 0)", x.crowd(0, 0), 1);
        is("crowd(0, 1)", x.crowd(0, 1), 2);
    }

    private void actsOfEachKindAreUndone() {
        due.part("each can be undone, the latest first");
        MostRooms x = Due.with(TWO + "crowd few 0 5;");
        x.bell();
        x.heads(0, 9);
        x.door(0, 1, 0);
        x.bell();
        x.door(1, 0, 1);
        x.row(0, 0, 1);
        x.set(0, 0, 1);
        x.bells(0, 0, 1);
        is("undo() of bells()", x.undo(), 5);
        is("crowd(0, 1)", x.crowd(0, 1), 9);
        is("crowd(0, 0)", x.crowd(0, 0), 1);
        is("count(3)", x.count(3), 2);
        is("undo() of a DOOR made", x.undo(), 4);
        is("room(0, 2)", x.room(0, 2), 0);
        is("room(1, 2)", x.room(1, 2), 0);
        is("undo() of a BELL", x.undo(), 3);
        is("count(3)", x.count(3), 1);
        is("undo() of a DOOR shut", x.undo(), 2);
        is("room(0, 2)", x.room(0, 2), 2);
        is("room(1, 2)", x.room(1, 2), 1);
        is("undo() of HEADS", x.undo(), 1);
        is("crowd(0, 1)", x.crowd(0, 1), 5);
        is("undo() of a BELL", x.undo(), 0);
        is("crowd(0, 0)", x.crowd(0, 0), 0);
        is("count(3)", x.count(3), 0);
        is("undo()", x.undo(), STATE);
    }

    private void actsInTheLastRoomOfTheLastCrowd() {
        due.part("each can be undone: in ROOM 5, of CROWD 4");
        MostRooms x = Due.with(SIX + "door 4 5;"
            + "crowd stay 0 1;crowd stay 0 1;crowd stay 4 5;crowd stay 5 4;crowd late 4 1;");
        x.heads(3, 9);
        x.bell();
        is("crowd(4, 0)", x.crowd(4, 0), 5);
        is("undo()", x.undo(), 1);
        is("crowd(4, 0): a BELL", x.crowd(4, 0), 4);
        x.heads(4, 7);
        x.door(5, 4, 0);
        x.undo();
        is("room(5, 2): a DOOR", x.room(5, 2), 16);
        is("room(4, 2): a DOOR", x.room(4, 2), 32);
        x.undo();
        is("crowd(4, 1): HEADS", x.crowd(4, 1), 1);
        x.undo();
        is("crowd(3, 1): HEADS", x.crowd(3, 1), 4);
        is("bell() 0", x.bell(), 0);
        x.heads(3, 9);
        x.bell();
        is("undo()", x.undo(), 2);
        is("bell() 1: by what was ahead of BELL 0", x.bell(), 0);
        is("bell() 2: by what was ahead of BELL 1", x.bell(), 16);
        is("undo()", x.undo(), 3);
        is("bell() 2 again", x.bell(), 16);
    }

    private void actsByWhichNothingBecomesAnother() {
        due.part("also such by which nothing becomes another");
        MostRooms x = Due.with(TWO + "crowd stay 0 5;");
        is("door(0, 1, 1)", x.door(0, 1, 1), 1);
        is("heads(0, 5)", x.heads(0, 5), 5);
        is("bell()", x.bell(), 0);
        is("count(4)", x.count(4), 3);
        is("undo()", x.undo(), 2);
        is("undo()", x.undo(), 1);
        is("undo()", x.undo(), 0);
        is("undo()", x.undo(), STATE);
    }

    private void eachBellOfARowIsAnAct() {
        due.part("each BELL of bells(), with its HEADS, is one");
        MostRooms x = Due.with(TWO + "crowd few 0 5;");
        x.row(0, 0, 24);
        for (int i = 0; i < 24; i++) {
            x.set(0, i, 1);
        }
        x.heads(0, 6);
        is("bells(0, 0, 23)", x.bells(0, 0, 23), 29);
        is("count(4)", x.count(4), 24);
        is("bells(0, 0, 24)", x.bells(0, 0, 24), 53);
        is("count(4): of more the oldest are forgotten", x.count(4), 24);
        for (int n = 23; n >= 0; n--) {
            is("undo()", x.undo(), n);
            is("crowd(0, 1)", x.crowd(0, 1), 29 + n);
            is("crowd(0, 0)", x.crowd(0, 0), (23 + n) % 2);
            is("count(3)", x.count(3), 23 + n);
        }
        is("undo()", x.undo(), STATE);
    }

    private void noneCanBeUndone() {
        due.part("undo: STATE: none");
        is("undo() without a HOUSE", new MostRooms().undo(), STATE);
        MostRooms x = Due.with(TWO + "crowd few 0 5;");
        is("undo() ahead of an ACT", x.undo(), STATE);
        x.bell();
        x.image(0);
        x.bell();
        is("undo() behind image()", x.undo(), 1);
        x.restore(0);
        is("undo() behind restore()", x.undo(), STATE);
        x.bell();
        is("undo() of an ACT behind restore()", x.undo(), 0);
        is("crowd(0, 0)", x.crowd(0, 0), 1);
    }

    private void crowdsAreTold() {
        due.part("crowd: 0 where it is, 1 HEADS. BAD");
        MostRooms x = Due.with(SIX + "crowd stay 0 1;crowd stay 1 2;crowd stay 3 3;crowd stay 4 4;crowd stay 5 50;");
        is("crowd(0, 0)", x.crowd(0, 0), 0);
        is("crowd(0, 1)", x.crowd(0, 1), 1);
        is("crowd(4, 0)", x.crowd(4, 0), 5);
        is("crowd(4, 1)", x.crowd(4, 1), 50);
        for (int wrong : new int[] {-1, 5, MIN, MAX}) {
            is("crowd(" + wrong + ", 0)", x.crowd(wrong, 0), BAD);
            is("crowd(" + wrong + ", 1)", x.crowd(wrong, 1), BAD);
        }
        for (int wrong : new int[] {-1, 2, MIN, MAX}) {
            is("crowd(0, " + wrong + ")", x.crowd(0, wrong), BAD);
        }
    }

    private void roomsAreTold() {
        due.part("room: 0 SEATS, 1 how many are IN it, 2 ROOMS that are seen from it (bits, without it). BAD");
        MostRooms x = Due.with("room 0;room 1;room 2;room 3;room 4;room 99;door 0 5;door 5 4;crowd stay 5 50;");
        is("room(0, 0)", x.room(0, 0), 0);
        is("room(5, 0)", x.room(5, 0), 99);
        is("room(5, 1)", x.room(5, 1), 50);
        is("room(5, 2)", x.room(5, 2), 17);
        is("room(0, 2)", x.room(0, 2), 32);
        is("room(1, 2)", x.room(1, 2), 0);
        for (int wrong : new int[] {-1, 6, MIN, MAX}) {
            for (int what = 0; what <= 2; what++) {
                is("room(" + wrong + ", " + what + ")", x.room(wrong, what), BAD);
            }
        }
        for (int wrong : new int[] {-1, 3, MIN, MAX}) {
            is("room(0, " + wrong + ")", x.room(0, wrong), BAD);
        }
    }
}

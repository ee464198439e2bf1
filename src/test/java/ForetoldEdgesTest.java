/** Promises 16 to 24: each sentence of the document on what is FORETOLD, and on IMAGES, that names a boundary. */
public final class ForetoldEdgesTest {
    private static final int NONE = -1000000, BAD = -1000001, STATE = -1000002;
    private static final int MIN = Integer.MIN_VALUE, MAX = Integer.MAX_VALUE;
    private static final String TWO = "room 4;room 4;door 0 1;";
    private static final String SIX = "room 9;".repeat(6);
    /** It is in ROOM 0 behind each even number of BELLS, in ROOM 1 behind each odd one. */
    private static final String TO_AND_FRO = TWO + "crowd few 0 4;";
    /** The longest way to REST that was found by search: 24. */
    private static final String LONG_REST = SIX + "door 0 1;door 0 3;door 1 2;door 2 5;door 4 5;"
        + "crowd most 2 9;crowd late 5 4;crowd most 4 9;crowd few 3 21;crowd like 5 5;";
    /** Goes round by 24 for ever. */
    private static final String LONG_RING = SIX + "door 0 1;door 0 3;door 1 2;door 1 5;door 2 3;door 2 4;door 3 5;"
        + "crowd like 3 4;crowd most 3 5;crowd most 2 3;crowd few 5 37;crowd few 4 27;";
    /** The longest RING that was found by search: behind one BELL, 34; it goes round by 6 in the end. */
    private static final String FAR_RING = SIX + "door 0 3;door 0 4;door 1 3;door 1 5;door 2 4;door 2 5;door 3 5;"
        + "crowd late 4 12;crowd few 4 43;crowd few 2 18;crowd most 5 7;crowd few 2 36;";
    /** CROWDS 0 and 1 are IN one ROOM behind 50 BELLS for the first time. */
    private static final String LATE_MEETING = SIX + "door 0 3;door 0 5;door 1 3;door 1 4;door 2 4;door 2 5;door 3 5;"
        + "crowd few 4 44;crowd few 1 45;crowd late 4 10;crowd late 0 9;crowd most 5 5;";

    private final Due due = new Due();

    public static void main(String[] args) {
        ForetoldEdgesTest t = new ForetoldEdgesTest();
        t.aheadGoesToSixtyBells();
        t.aheadOfNoneIsNow();
        t.roomAheadGoesToSixtyBells();
        t.worthIsFromTheNextBellOn();
        t.worthIsSeatsAtMost();
        t.restIsNoneAtTheLeast();
        t.restIsFarAway();
        t.restIsOfTwoBellsRunning();
        t.restIsNone();
        t.ringIsOneAtTheLeast();
        t.ringIsFarAway();
        t.ringIsOfPlacesAlone();
        t.ringIsNone();
        t.restIsStateAheadOfBad();
        t.foretellingGoesBeyondTheLastBell();
        t.hiredAreNone();
        t.hiredAreSixtyAtMost();
        t.hiredAreTheFewest();
        t.hiredIsTheLeastRoom();
        t.hiredAreBehindOneToTwentyBells();
        t.hiredStayFromNowOn();
        t.hiredWereThereAheadOfTheLatestBell();
        t.nobodyIsHiredAnyMore();
        t.hiredAreNoCrowdAndOfNoSort();
        t.hiredLeaveStayOnesAside();
        t.hiredIsBad();
        t.emptyIsNone();
        t.emptyIsSixtyAtMost();
        t.emptyIsBehindOneToTwentyBells();
        t.nobodyIsHiredIntoTheRoom();
        t.emptyIsTheLeastRoom();
        t.emptyIsOfStayOnesToo();
        t.emptyIsBad();
        t.apartNeedsNone();
        t.apartIsADoor();
        t.apartIsTheLeastDoor();
        t.apartIsNone();
        t.apartIsBehindTheNextBells();
        t.apartIsBehindAsManyBells();
        t.apartIsFartherBehindChanges();
        t.apartIsBad();
        t.beganByNoneIsAsItIs();
        t.beganIsByNineBellsAtMost();
        t.beganTellsTheFirstOfAllWays();
        t.beganIsNone();
        t.beganWithBellNoughtToCome();
        t.beganWithDoorsAndHeadsAsTheyAre();
        t.beganIsStateAheadOfBad();
        t.beganOfFiveInSixRooms();
        t.imagesAreTwo();
        t.imagesKeepTheHouse();
        t.restoreLeavesAllElse();
        t.restoreIsOfAnImage();
        t.due.end();
    }

    private void is(String call, long got, long want) {
        due.is(call, got, want);
    }

    private void aheadGoesToSixtyBells() {
        due.part("AHEAD by n BELLS (0 to 60): where a CROWD is. BAD");
        MostRooms x = Due.with(TO_AND_FRO);
        for (int n = 0; n <= 60; n++) {
            is("ahead(0, " + n + ")", x.ahead(0, n), n % 2);
        }
        for (int n : new int[] {-1, 61, MIN, MAX}) {
            is("ahead(0, " + n + ")", x.ahead(0, n), BAD);
        }
        for (int crowd : new int[] {-1, 1, 5, MIN, MAX}) {
            is("ahead(" + crowd + ", 0)", x.ahead(crowd, 0), BAD);
        }
        is("ahead(0, 0) without a HOUSE", new MostRooms().ahead(0, 0), BAD);
        MostRooms five = Due.with(SIX + "crowd stay 5 1;".repeat(5));
        is("ahead(4, 60)", five.ahead(4, 60), 5);
        is("ahead(5, 60)", five.ahead(5, 60), BAD);
    }

    private void aheadOfNoneIsNow() {
        due.part("AHEAD by 0: as it is");
        MostRooms x = Due.with(TO_AND_FRO);
        x.bell();
        is("ahead(0, 0)", x.ahead(0, 0), 1);
        is("roomAhead(1, 0, 0)", x.roomAhead(1, 0, 0), 4);
        is("roomAhead(0, 0, 0)", x.roomAhead(0, 0, 0), 0);
        is("roomAhead(1, 0, 1)", x.roomAhead(1, 0, 1), 0);
        is("began(0, 0)", x.began(0, 0), 1);
    }

    private void roomAheadGoesToSixtyBells() {
        due.part("AHEAD by n BELLS (0 to 60): how many are IN a ROOM (what = 0); WORTH (1). BAD");
        MostRooms x = Due.with(TO_AND_FRO);
        for (int n = 0; n <= 60; n++) {
            is("roomAhead(0, " + n + ", 0)", x.roomAhead(0, n, 0), n % 2 == 0 ? 4 : 0);
            is("roomAhead(1, " + n + ", 0)", x.roomAhead(1, n, 0), n % 2 == 0 ? 0 : 4);
            is("roomAhead(0, " + n + ", 1)", x.roomAhead(0, n, 1), 4 * (n / 2));
            is("roomAhead(1, " + n + ", 1)", x.roomAhead(1, n, 1), 4 * ((n + 1) / 2));
        }
        for (int what = 0; what <= 1; what++) {
            for (int n : new int[] {-1, 61, MIN, MAX}) {
                is("roomAhead(0, " + n + ", " + what + ")", x.roomAhead(0, n, what), BAD);
            }
            for (int room : new int[] {-1, 2, 6, MIN, MAX}) {
                is("roomAhead(" + room + ", 1, " + what + ")", x.roomAhead(room, 1, what), BAD);
            }
            is("roomAhead(0, 0, " + what + ") without a HOUSE", new MostRooms().roomAhead(0, 0, what), BAD);
        }
        for (int what : new int[] {-1, 2, MIN, MAX}) {
            is("roomAhead(0, 1, " + what + ")", x.roomAhead(0, 1, what), BAD);
        }
        is("roomAhead(5, 60, 0)", Due.with(SIX + "crowd stay 5 1;").roomAhead(5, 60, 0), 1);
    }

    private void worthIsFromTheNextBellOn() {
        due.part("WORTH: added up over n BELLS from the next one on");
        MostRooms x = Due.with("room 9;room 9;door 0 1;crowd most 0 5;crowd stay 1 6;");
        is("of none", x.roomAhead(1, 0, 1), 0);
        is("where it is no more", x.roomAhead(0, 1, 1), 0);
        is("where it is then", x.roomAhead(1, 1, 1), 9);
        is("over sixty", x.roomAhead(1, 60, 1), 540);
        is("over sixty, where it is no more", x.roomAhead(0, 60, 1), 0);
    }

    private void worthIsSeatsAtMost() {
        due.part("WORTH: HEADS that are IN it, SEATS at most");
        for (int seats : new int[] {0, 1, 6, 7, 8, 99}) {
            MostRooms x = Due.with("room " + seats + ";crowd stay 0 3;crowd stay 0 4;");
            is("of " + seats + " SEATS", x.roomAhead(0, 3, 1), 3 * Math.min(7, seats));
            is("how many are IN it", x.roomAhead(0, 3, 0), 7);
        }
        MostRooms y = Due.with("room 99;crowd stay 0 50;crowd stay 0 50;");
        is("the most of all", y.roomAhead(0, 60, 1), 5940);
        y.heads(0, 49);
        is("just as many as SEATS", y.roomAhead(0, 60, 1), 5940);
        y.heads(0, 48);
        is("one fewer", y.roomAhead(0, 60, 1), 5880);
    }

    private void restIsNoneAtTheLeast() {
        due.part("REST: the fewest BELLS (0 to 60): none");
        MostRooms x = Due.with("room 1;");
        is("rest(0) without CROWDS", x.rest(0), 0);
        MostRooms y = Due.with(TWO + "crowd most 0 5;crowd stay 1 6;");
        is("rest(0)", y.rest(0), 1);
        y.bell();
        is("rest(0) of all that stay", y.rest(0), 0);
    }

    private void restIsFarAway() {
        due.part("REST: the fewest BELLS (0 to 60) from now on");
        MostRooms x = Due.with(LONG_REST);
        for (int left = 24; left >= 0; left--) {
            is("rest(0)", x.rest(0), left);
            x.bell();
        }
        is("rest(0)", x.rest(0), 0);
    }

    private void restIsOfTwoBellsRunning() {
        due.part("REST: behind which two BELLS running move no CROWD");
        MostRooms x = Due.with(TWO + "crowd late 0 2;crowd stay 0 3;crowd stay 1 4;");
        x.bell();
        x.heads(2, 9);
        is("ahead(0, 1): the first moves none", x.ahead(0, 1), 0);
        is("ahead(0, 2): the second does", x.ahead(0, 2), 1);
        is("rest(0)", x.rest(0), 2);
    }

    private void restIsNone() {
        due.part("REST: NONE");
        MostRooms x = Due.with(TO_AND_FRO);
        is("rest(0)", x.rest(0), NONE);
        x.bell();
        is("rest(0)", x.rest(0), NONE);
        is("rest(0) of a RING of 24", Due.with(LONG_RING).rest(0), NONE);
        x.door(0, 1, 0);
        is("rest(0) without a DOOR", x.rest(0), 0);
    }

    private void ringIsOneAtTheLeast() {
        due.part("RING: the fewest BELLS (1 to 60): one");
        is("rest(1) without CROWDS", Due.with("room 1;").rest(1), 1);
        is("rest(1) of all that stay", Due.with("room 1;crowd few 0 1;").rest(1), 1);
        is("rest(1) of one to and fro", Due.with(TO_AND_FRO).rest(1), 2);
    }

    private void ringIsFarAway() {
        due.part("RING: behind which each CROWD is where it is now");
        MostRooms x = Due.with(LONG_RING);
        is("rest(1)", x.rest(1), 24);
        is("ahead(0, 24)", x.ahead(0, 24), 3);
        is("ahead(4, 24)", x.ahead(4, 24), 4);
        MostRooms y = Due.with("room 1;room 1;room 1;room 1;door 0 1;door 2 3;"
            + "crowd few 0 4;crowd most 2 1;crowd stay 3 2;");
        is("rest(1): one of them never comes back", y.rest(1), NONE);
    }

    /** DOORS are made where they were shut, and shut where they were, by pairs of ROOMS. */
    private static void turn(MostRooms x, int... pairs) {
        for (int pair : pairs) {
            int a = pair / 10;
            int b = pair % 10;
            x.door(a, b, 1 - (x.room(a, 2) >> b & 1));
        }
    }

    private static void heads(MostRooms x, int... heads) {
        for (int c = 0; c < heads.length; c++) {
            x.heads(c, heads[c]);
        }
    }

    /** The fewest BELLS behind which all are where they are now, told by ahead() alone. */
    private static int bellsBack(MostRooms x) {
        for (int n = 1; n <= 60; n++) {
            boolean back = true;
            for (int c = 0; c < x.count(2); c++) {
                back &= x.ahead(c, n) == x.crowd(c, 0);
            }
            if (back) {
                return n;
            }
        }
        return NONE;
    }

    private void ringIsOfPlacesAlone() {
        due.part("RING: where it is now: what 'late' ones go by may be other then");
        MostRooms x = Due.with(FAR_RING);
        is("rest(1): where it begins it never is again", x.rest(1), NONE);
        x.bell();
        is("ahead() by 34", bellsBack(x), 34);
        is("rest(1)", x.rest(1), 34);
        for (int k = 2; k <= 29; k++) {
            x.bell();
            is("rest(1) behind " + k, x.rest(1), NONE);
        }
        for (int k = 30; k <= 36; k++) {
            x.bell();
            is("rest(1) behind " + k, x.rest(1), 6);
        }
    }

    private void ringIsNone() {
        due.part("RING: NONE");
        MostRooms x = Due.with(TWO + "crowd most 0 5;crowd stay 1 6;");
        is("rest(1)", x.rest(1), NONE);
        is("rest(1) of a long way to REST", Due.with(LONG_REST).rest(1), NONE);
    }

    private void restIsStateAheadOfBad() {
        due.part("rest: REST (what = 0), RING (1). BAD; STATE: no HOUSE (ahead of BAD)");
        MostRooms x = Due.with(TWO);
        for (int what : new int[] {-1, 2, MIN, MAX}) {
            is("rest(" + what + ")", x.rest(what), BAD);
            is("rest(" + what + ") without a HOUSE", new MostRooms().rest(what), STATE);
        }
        is("rest(0) without a HOUSE", new MostRooms().rest(0), STATE);
        is("rest(1) without a HOUSE", new MostRooms().rest(1), STATE);
    }

    private void foretellingGoesBeyondTheLastBell() {
        due.part("FORETOLD: FULL is told of bell() and bells() alone");
        MostRooms x = Due.with(TO_AND_FRO);
        x.row(0, 0, 24);
        for (int k = 0; k < 416; k++) {
            x.bells(0, 0, 24);
        }
        x.bells(0, 0, 15);
        is("bell()", x.bell(), -1000003);
        is("ahead(0, 1)", x.ahead(0, 1), 0);
        is("ahead(0, 60)", x.ahead(0, 60), 1);
        is("roomAhead(0, 60, 1)", x.roomAhead(0, 60, 1), 120);
        is("rest(1)", x.rest(1), 2);
        is("hired(0, 1, 0)", x.hired(0, 1, 0), 0);
        is("began(0, 9)", x.began(0, 9), 0);
        is("crowd(0, 0)", x.crowd(0, 0), 1);
    }

    private void hired(MostRooms x, int room, int n, int heads, int in) {
        is("hired(" + room + ", " + n + ", 0)", x.hired(room, n, 0), heads);
        is("hired(" + room + ", " + n + ", 1)", x.hired(room, n, 1), in);
    }

    private void empty(MostRooms x, int room, int n, int heads, int in) {
        is("empty(" + room + ", " + n + ", 0)", x.empty(room, n, 0), heads);
        is("empty(" + room + ", " + n + ", 1)", x.empty(room, n, 1), in);
    }

    private void hiredAreNone() {
        due.part("HIRED: the fewest heads (0 to 60); in which ROOM (0 for none)");
        MostRooms x = Due.with(SIX + "door 4 5;crowd most 4 5;crowd stay 5 6;");
        hired(x, 5, 1, 0, 0);
        hired(Due.with(SIX + "crowd most 5 5;"), 5, 20, 0, 0);
        hired(Due.with(SIX), 5, 1, 0, 0);
    }

    private void hiredAreSixtyAtMost() {
        due.part("HIRED: 60 heads; NONE");
        MostRooms x = Due.with(TWO + "crowd most 0 50;crowd stay 0 8;");
        hired(x, 1, 1, 59, 1);
        x.heads(1, 9);
        hired(x, 1, 1, 60, 1);
        x.heads(1, 10);
        hired(x, 1, 1, NONE, NONE);
        MostRooms y = Due.with(TWO + "crowd most 0 50;crowd stay 1 50;");
        hired(y, 1, 1, 1, 1);
    }

    private void hiredAreTheFewest() {
        due.part("HIRED: the fewest");
        MostRooms x = Due.with("room 1;room 1;room 1;door 0 1;door 1 2;crowd most 0 3;crowd stay 2 8;");
        hired(x, 1, 1, 4, 1);
        hired(x, 2, 2, 4, 1);
        hired(x, 1, 2, 5, 1);
        MostRooms z = Due.with("room 1;".repeat(5) + "door 3 2;door 3 4;door 2 1;door 4 1;"
            + "crowd most 3 5;crowd stay 1 20;crowd stay 4 3;");
        hired(z, 1, 2, 3, 4);
        MostRooms y = Due.with(TWO + "crowd few 0 3;crowd stay 1 5;");
        hired(y, 1, 1, 3, 0);
    }

    private void hiredIsTheLeastRoom() {
        due.part("HIRED: in which ROOM, of several the least");
        MostRooms x = Due.with("room 1;".repeat(5) + "door 3 2;door 3 4;door 2 1;door 4 1;"
            + "crowd most 3 5;crowd stay 1 20;");
        hired(x, 1, 2, 6, 2);
        x.door(3, 2, 0);
        hired(x, 1, 2, 6, 4);
        x.door(3, 0, 1);
        x.door(0, 1, 1);
        hired(x, 1, 2, 6, 0);
    }

    private void hiredAreBehindOneToTwentyBells() {
        due.part("HIRED: behind n BELLS; BAD: n 1 to 20, too");
        MostRooms x = Due.with(TO_AND_FRO);
        for (int n = 1; n <= 20; n++) {
            boolean even = n % 2 == 0;
            hired(x, 0, n, even ? 0 : 4, even ? 0 : 1);
            hired(x, 1, n, even ? 4 : 0, 0);
        }
        for (int what = 0; what <= 1; what++) {
            for (int n : new int[] {-1, 0, 21, 60, MIN, MAX}) {
                is("hired(0, " + n + ", " + what + ")", x.hired(0, n, what), BAD);
            }
        }
    }

    private void hiredStayFromNowOn() {
        due.part("HIRED: who stay in one ROOM from now on");
        MostRooms x = Due.with(TWO + "crowd few 0 4;");
        is("ahead(0, 3) without them", x.ahead(0, 3), 1);
        hired(x, 0, 3, 4, 1);
        hired(x, 1, 4, 4, 0);
        MostRooms y = Due.with("room 1;room 1;room 1;door 0 1;door 1 2;crowd most 0 2;crowd stay 1 3;");
        hired(y, 2, 2, 6, 2);
    }

    private void hiredWereThereAheadOfTheLatestBell() {
        due.part("HIRED: they are IN it, and would have been ahead of the latest BELL");
        MostRooms x = Due.with(TWO + "crowd late 0 4;");
        hired(x, 1, 1, 5, 1);
        x.bell();
        x.heads(0, 9);
        hired(x, 1, 1, 5, 1);
        x.heads(0, 2);
        hired(x, 1, 1, 5, 1);
        hired(x, 0, 1, 0, 0);
        MostRooms y = Due.with(TWO + "crowd late 0 5;crowd stay 1 3;");
        y.bell();
        y.heads(1, 50);
        hired(y, 1, 1, 3, 1);
        y.heads(1, 1);
        hired(y, 1, 1, 3, 1);
        MostRooms z = Due.with(SIX + "door 4 5;crowd late 4 5;crowd stay 5 3;");
        z.bell();
        hired(z, 5, 1, 3, 5);
    }

    private void nobodyIsHiredAnyMore() {
        due.part("FORETOLD (nothing changes): HIRED heads are there for what is asked alone");
        MostRooms x = Due.with(TWO + "crowd most 0 5;crowd stay 1 5;crowd stay 0 1;");
        hired(x, 1, 3, 2, 1);
        is("ahead(0, 1)", x.ahead(0, 1), 0);
        hired(x, 1, 3, 2, 1);
        is("roomAhead(1, 1, 0)", x.roomAhead(1, 1, 0), 5);
        empty(x, 1, 1, NONE, NONE);
        is("rest(0)", x.rest(0), 0);
        hired(x, 1, 3, 2, 1);
        is("rest(1)", x.rest(1), 1);
        hired(x, 1, 3, 2, 1);
        is("apart(0, 1, 3)", x.apart(0, 1, 3), -1);
        hired(x, 1, 3, 2, 1);
        is("began(-1, 1)", x.began(-1, 1), 1);
        hired(x, 1, 3, 2, 1);
        is("room(1, 1)", x.room(1, 1), 5);
        is("bell()", x.bell(), 0);
    }

    private void hiredAreNoCrowdAndOfNoSort() {
        due.part("HIRED: but are no CROWD, and of no SORT");
        hired(Due.with(TWO + "crowd like 0 1;"), 1, 1, NONE, NONE);
        hired(Due.with(TWO + "crowd like 0 1;crowd like 1 2;"), 1, 1, 0, 0);
        hired(Due.with(TWO + "crowd most 0 1;"), 1, 1, 2, 1);
        empty(Due.with(TWO + "crowd few 0 1;"), 1, 2, 0, 0);
    }

    private void hiredLeaveStayOnesAside() {
        due.part("HIRED: all CROWDS but 'stay' ones are IN a told ROOM");
        hired(Due.with(TWO + "crowd stay 0 5;"), 1, 1, 0, 0);
        hired(Due.with(TWO + "crowd stay 0 5;crowd most 1 5;"), 1, 1, 0, 0);
        hired(Due.with(TWO + "crowd stay 0 5;crowd most 1 4;"), 1, 1, 1, 1);
        hired(Due.with("room 1;room 1;crowd most 0 5;crowd most 1 2;"), 0, 20, NONE, NONE);
        hired(Due.with(TWO + "crowd most 0 5;crowd most 1 2;"), 0, 1, 0, 0);
    }

    private void hiredIsBad() {
        due.part("hired: how many (what = 0), in which (1). BAD");
        MostRooms x = Due.with(TO_AND_FRO);
        for (int room : new int[] {-1, 2, 6, MIN, MAX}) {
            is("hired(" + room + ", 1, 0)", x.hired(room, 1, 0), BAD);
        }
        for (int what : new int[] {-1, 2, MIN, MAX}) {
            is("hired(0, 1, " + what + ")", x.hired(0, 1, what), BAD);
        }
        is("hired(0, 1, 0) without a HOUSE", new MostRooms().hired(0, 1, 0), BAD);
        is("hired(5, 20, 1)", Due.with(SIX).hired(5, 20, 1), 0);
    }

    private void emptyIsNone() {
        due.part("EMPTY likewise: 0 heads; in which ROOM (0 for none)");
        empty(Due.with(SIX + "crowd stay 5 1;"), 4, 1, 0, 0);
        empty(Due.with(SIX + "crowd stay 5 1;"), 0, 20, 0, 0);
        empty(Due.with(SIX), 0, 1, 0, 0);
    }

    private void emptyIsSixtyAtMost() {
        due.part("EMPTY: 60 heads; NONE");
        MostRooms x = Due.with(TWO + "crowd most 0 50;crowd most 0 8;");
        empty(x, 0, 1, 59, 1);
        x.heads(1, 9);
        empty(x, 0, 1, 60, 1);
        x.heads(1, 10);
        empty(x, 0, 1, NONE, NONE);
    }

    private void emptyIsBehindOneToTwentyBells() {
        due.part("EMPTY: behind n BELLS; BAD: n 1 to 20, too");
        MostRooms x = Due.with(TO_AND_FRO);
        for (int n = 1; n <= 20; n++) {
            empty(x, n % 2, n, NONE, NONE);
            empty(x, 1 - n % 2, n, 0, 0);
        }
        for (int what = 0; what <= 1; what++) {
            for (int n : new int[] {-1, 0, 21, 60, MIN, MAX}) {
                is("empty(0, " + n + ", " + what + ")", x.empty(0, n, what), BAD);
            }
        }
    }

    private void nobodyIsHiredIntoTheRoom() {
        due.part("EMPTY: nobody is hired into that ROOM");
        MostRooms x = Due.with(TWO + "crowd few 0 5;crowd stay 1 5;");
        hired(x, 1, 1, 1, 0);
        empty(x, 0, 1, NONE, NONE);
        MostRooms y = Due.with("room 1;room 1;room 1;door 0 1;door 0 2;crowd few 0 5;");
        hired(y, 2, 1, 1, 1);
        empty(y, 1, 1, NONE, NONE);
        MostRooms z = Due.with("room 1;room 1;room 1;door 0 1;door 0 2;crowd few 0 5;crowd stay 2 3;");
        empty(z, 1, 1, NONE, NONE);
        empty(z, 0, 1, 0, 0);
    }

    private void emptyIsTheLeastRoom() {
        due.part("EMPTY: in which ROOM, of several the least");
        MostRooms x = Due.with("room 1;room 1;room 1;door 2 1;door 0 2;crowd most 2 3;");
        empty(x, 2, 1, 4, 0);
        x.door(0, 2, 0);
        empty(x, 2, 1, 4, 1);
        MostRooms y = Due.with("room 1;room 1;room 1;door 0 1;door 0 2;crowd most 0 3;");
        empty(y, 0, 1, 4, 1);
        MostRooms z = Due.with("room 1;room 1;room 1;door 2 1;door 0 2;crowd most 2 3;crowd stay 1 2;");
        empty(z, 2, 1, 2, 1);
    }

    private void emptyIsOfStayOnesToo() {
        due.part("EMPTY: so that no CROWD is IN a told ROOM then");
        empty(Due.with(TWO + "crowd stay 0 1;"), 0, 1, NONE, NONE);
        empty(Due.with(TWO + "crowd stay 0 1;crowd most 0 1;"), 0, 20, NONE, NONE);
    }

    private void emptyIsBad() {
        due.part("empty: how many (what = 0), in which (1). BAD");
        MostRooms x = Due.with(TO_AND_FRO);
        for (int room : new int[] {-1, 2, 6, MIN, MAX}) {
            is("empty(" + room + ", 1, 0)", x.empty(room, 1, 0), BAD);
        }
        for (int what : new int[] {-1, 2, MIN, MAX}) {
            is("empty(0, 1, " + what + ")", x.empty(0, 1, what), BAD);
        }
        is("empty(0, 1, 0) without a HOUSE", new MostRooms().empty(0, 1, 0), BAD);
    }

    private void apartNeedsNone() {
        due.part("APART: -1: none needs to be");
        MostRooms x = Due.with(TWO + "crowd most 0 2;crowd few 1 3;");
        is("they change places for ever", x.apart(0, 1, 60), -1);
        is("without a DOOR", Due.with("room 1;room 1;crowd most 0 2;crowd most 1 3;").apart(1, 0, 60), -1);
        MostRooms y = Due.with(TWO + "crowd few 0 2;crowd stay 0 3;");
        is("where they are now is not asked", y.apart(0, 1, 1), -1);
    }

    private void apartIsADoor() {
        due.part("APART: the one DOOR (6 times the lesser ROOM, and the other one)");
        for (int a = 0; a < 6; a++) {
            for (int b = 0; b < 6; b++) {
                if (a != b) {
                    MostRooms x = Due.with(SIX + "door " + a + " " + b
                        + ";crowd most " + a + " 2;crowd stay " + b + " 3;");
                    int door = 6 * Math.min(a, b) + Math.max(a, b);
                    is("apart(0, 1, 1) by the DOOR " + a + " " + b, x.apart(0, 1, 1), door);
                    is("apart(1, 0, 60) by the DOOR " + a + " " + b, x.apart(1, 0, 60), door);
                }
            }
        }
    }

    private void apartIsTheLeastDoor() {
        due.part("APART: of several the least");
        MostRooms x = Due.with("room 1;room 1;room 1;room 1;door 2 3;door 1 2;door 0 1;"
            + "crowd most 0 2;crowd stay 3 9;crowd stay 2 6;crowd stay 1 3;");
        is("apart(0, 1, 3)", x.apart(0, 1, 3), 1);
        is("apart(0, 2, 2)", x.apart(0, 2, 2), 1);
        is("apart(0, 2, 3): the same", x.apart(0, 2, 3), 1);
        is("apart(0, 3, 1)", x.apart(0, 3, 1), 1);
        MostRooms y = Due.with("room 1;room 1;room 1;room 1;door 0 1;door 1 2;door 2 3;"
            + "crowd most 1 2;crowd stay 3 9;crowd stay 2 5;");
        is("a DOOR of a lesser number that does not help", y.apart(0, 1, 2), 8);
        is("room(1, 2): none is shut", y.room(1, 2), 5);
    }

    private void apartIsNone() {
        due.part("APART: NONE");
        is("two who stay in one ROOM", Due.with("room 1;crowd stay 0 1;crowd stay 0 1;").apart(0, 1, 1), NONE);
        MostRooms two = Due.with(TWO + "crowd stay 0 1;crowd stay 0 1;");
        is("two who stay in one ROOM with a DOOR", two.apart(0, 1, 60), NONE);
        MostRooms x = Due.with("room 1;room 1;room 1;door 0 1;door 0 2;door 1 2;"
            + "crowd most 0 2;crowd stay 1 9;crowd stay 2 5;");
        is("apart(0, 1, 1)", x.apart(0, 1, 1), 1);
        is("apart(0, 1, 2): by the other way it comes, too", x.apart(0, 1, 2), NONE);
    }

    private void apartIsBehindTheNextBells() {
        due.part("APART: behind none of the next n BELLS");
        MostRooms x = Due.with("room 1;room 1;room 1;door 0 1;door 1 2;crowd most 0 2;crowd stay 2 9;crowd stay 1 4;");
        is("apart(0, 1, 1): behind the second they are", x.apart(0, 1, 1), -1);
        is("apart(0, 1, 2)", x.apart(0, 1, 2), 1);
        is("apart(0, 2, 1)", x.apart(0, 2, 1), 1);
        is("apart(0, 2, 60): behind the first alone they are", x.apart(0, 2, 60), 1);
    }

    private void apartIsBehindAsManyBells() {
        due.part("APART: n 1 to 60");
        MostRooms x = Due.with(LATE_MEETING);
        is("ahead(0, 50) is ahead(1, 50)", x.ahead(0, 50), x.ahead(1, 50));
        for (int n = 1; n <= 49; n++) {
            is("apart(0, 1, " + n + ")", x.apart(0, 1, n), -1);
        }
        is("apart(0, 1, 50): the DOOR 0 5", x.apart(0, 1, 50), 5);
        is("apart(0, 1, 60)", x.apart(0, 1, 60), 5);
    }

    private void apartIsFartherBehindChanges() {
        due.part("APART: n 1 to 60, with what 'late' ones go by from before DOORS and HEADS changed");
        MostRooms x = Due.with(SIX + "door 0 1;door 0 2;door 0 3;door 0 4;door 0 5;door 1 3;door 1 5;door 2 3;"
            + "door 2 4;door 3 5;door 4 5;"
            + "crowd late 3 1;crowd most 0 37;crowd few 1 1;crowd few 3 1;crowd late 4 49;");
        heads(x, 69, 37, 86, 52, 49);
        x.bell();
        turn(x, 1, 2, 4, 14, 15, 23, 25, 45);
        heads(x, 17, 17, 96, 87, 61);
        for (int n = 1; n <= 50; n++) {
            is("apart(2, 3, " + n + ")", x.apart(2, 3, n), -1);
        }
        is("ahead(2, 51) is ahead(3, 51)", x.ahead(2, 51), x.ahead(3, 51));
        is("apart(2, 3, 51) needs a DOOR", x.apart(2, 3, 51) == -1 ? 0 : 1, 1);
        is("apart(2, 3, 60): the same", x.apart(2, 3, 60), x.apart(3, 2, 51));
    }

    private void apartIsBad() {
        due.part("apart: BAD: alike, n 1 to 60, too");
        MostRooms x = Due.with(SIX + "crowd stay 0 1;".repeat(5));
        for (int a = 0; a < 5; a++) {
            is("apart(" + a + ", " + a + ", 1)", x.apart(a, a, 1), BAD);
            is("apart(" + a + ", 5, 1)", x.apart(a, 5, 1), BAD);
            is("apart(5, " + a + ", 1)", x.apart(5, a, 1), BAD);
            is("apart(" + a + ", -1, 1)", x.apart(a, -1, 1), BAD);
            is("apart(-1, " + a + ", 1)", x.apart(-1, a, 1), BAD);
        }
        for (int n : new int[] {-1, 0, 61, MIN, MAX}) {
            is("apart(0, 4, " + n + ")", x.apart(0, 4, n), BAD);
        }
        is("apart(0, 4, 60)", x.apart(0, 4, 60), NONE);
        is("apart(0, 4, 1)", x.apart(0, 4, 1), NONE);
        is("apart(0, 1, 1) without a HOUSE", new MostRooms().apart(0, 1, 1), BAD);
        is("apart(0, 1, 1) of one CROWD", Due.with("room 1;crowd stay 0 1;").apart(0, 1, 1), BAD);
    }

    private void beganByNoneIsAsItIs() {
        due.part("BEGAN: behind n BELLS (0 to 9): none");
        MostRooms x = Due.with(SIX + "crowd few 5 1;crowd most 3 1;crowd stay 0 1;crowd like 4 1;crowd late 2 1;");
        int[] rooms = {5, 3, 0, 4, 2};
        is("began(-1, 0)", x.began(-1, 0), 1);
        for (int c = 0; c < 5; c++) {
            is("began(" + c + ", 0)", x.began(c, 0), rooms[c]);
        }
        MostRooms none = Due.with("room 1;room 1;");
        is("began(-1, 0) without CROWDS: one way", none.began(-1, 0), 1);
        is("began(-1, 9) without CROWDS: one way", none.began(-1, 9), 1);
        is("began(0, 0) without CROWDS", none.began(0, 0), BAD);
    }

    private void beganIsByNineBellsAtMost() {
        due.part("BEGAN: behind n BELLS; BAD: n 0 to 9");
        MostRooms x = Due.with(TO_AND_FRO);
        for (int n = 0; n <= 9; n++) {
            is("began(-1, " + n + ")", x.began(-1, n), 1);
            is("began(0, " + n + ")", x.began(0, n), n % 2);
        }
        for (int n : new int[] {-1, 10, MIN, MAX}) {
            is("began(-1, " + n + ")", x.began(-1, n), BAD);
            is("began(0, " + n + ")", x.began(0, n), BAD);
        }
        for (int crowd : new int[] {-2, 1, 5, MIN, MAX}) {
            is("began(" + crowd + ", 1)", x.began(crowd, 1), BAD);
        }
    }

    private void beganTellsTheFirstOfAllWays() {
        due.part("BEGAN: all ways: how many; where each was by the first of them (by CROWDS)");
        MostRooms x = Due.with("room 1;room 1;room 1;door 0 1;door 1 2;crowd most 1 5;crowd most 1 5;crowd stay 1 9;");
        is("began(-1, 1): from all but both in 0, both in 2", x.began(-1, 1), 7);
        is("began(0, 1)", x.began(0, 1), 0);
        is("began(1, 1)", x.began(1, 1), 1);
        is("began(2, 1)", x.began(2, 1), 1);
        x.heads(2, 10);
        is("began(-1, 1): equals stay", x.began(-1, 1), 7);
        x.heads(2, 11);
        is("began(-1, 1): from everywhere", x.began(-1, 1), 9);
        is("began(0, 1)", x.began(0, 1), 0);
        is("began(1, 1)", x.began(1, 1), 0);
    }

    private void beganIsNone() {
        due.part("BEGAN: NONE: none");
        MostRooms x = Due.with(TWO + "crowd most 0 5;crowd stay 1 9;");
        is("began(-1, 0)", x.began(-1, 0), 1);
        is("began(-1, 1): how many", x.began(-1, 1), 0);
        is("began(0, 1)", x.began(0, 1), NONE);
        is("began(1, 1)", x.began(1, 1), NONE);
        is("began(-1, 9)", x.began(-1, 9), 0);
        is("began(0, 9)", x.began(0, 9), NONE);
        is("began(2, 9)", x.began(2, 9), BAD);
    }

    private void beganWithBellNoughtToCome() {
        due.part("BEGAN: BELL 0 being to come");
        MostRooms x = Due.with(TWO + "crowd late 1 2;crowd stay 1 4;");
        x.bell();
        x.heads(0, 9);
        is("began(-1, 1): the late one stays where it is", x.began(-1, 1), 1);
        is("began(0, 1)", x.began(0, 1), 1);
        x.heads(0, 3);
        is("began(-1, 1): it came from the other ROOM, or was there", x.began(-1, 1), 2);
        is("began(0, 1)", x.began(0, 1), 0);
        is("count(3)", x.count(3), 1);
    }

    private void beganWithDoorsAndHeadsAsTheyAre() {
        due.part("BEGAN: with DOORS and HEADS as they are");
        MostRooms x = Due.with(TWO + "crowd most 1 5;crowd stay 1 6;");
        is("began(-1, 1)", x.began(-1, 1), 2);
        x.heads(1, 5);
        is("began(-1, 1): HEADS", x.began(-1, 1), 1);
        x.heads(1, 6);
        x.door(0, 1, 0);
        is("began(-1, 1): DOORS", x.began(-1, 1), 1);
        is("began(0, 1)", x.began(0, 1), 1);
    }

    private void beganIsStateAheadOfBad() {
        due.part("began: BAD n 0 to 9; STATE: no HOUSE (ahead of BAD)");
        for (int crowd : new int[] {-2, -1, 0, 5}) {
            for (int n : new int[] {-1, 0, 9, 10}) {
                is("began(" + crowd + ", " + n + ")", new MostRooms().began(crowd, n), STATE);
            }
        }
    }

    private void beganOfFiveInSixRooms() {
        due.part("BEGAN: all ways for CROWDS to be in ROOMS: five in six");
        String star = SIX + "door 5 0;door 5 1;door 5 2;door 5 3;door 5 4;";
        MostRooms x = Due.with(star + "crowd most 5 1;".repeat(4) + "crowd stay 5 5;");
        is("began(-1, 1): from everywhere", x.began(-1, 1), 1296);
        is("began(-1, 9)", x.began(-1, 9), 1296);
        is("began(0, 9)", x.began(0, 9), 0);
        is("began(3, 9)", x.began(3, 9), 0);
        is("began(4, 9)", x.began(4, 9), 5);
        MostRooms y = Due.with(SIX + "crowd few 5 1;".repeat(5));
        is("began(-1, 9): no DOOR", y.began(-1, 9), 1);
        is("began(4, 9)", y.began(4, 9), 5);
    }

    private void imagesAreTwo() {
        due.part("image: An IMAGE (0, 1) is kept of the HOUSE: 1. BAD; STATE: no HOUSE");
        MostRooms x = new MostRooms();
        is("image(0)", x.image(0), STATE);
        is("image(1)", x.image(1), STATE);
        for (int k : new int[] {-1, 2, MIN, MAX}) {
            is("image(" + k + "): BAD ahead of STATE", x.image(k), BAD);
        }
        Due.read(x, "room 1;");
        is("image(0)", x.image(0), 1);
        Due.read(x, "room 1;room 1;");
        is("image(1)", x.image(1), 1);
        for (int k : new int[] {-1, 2, MIN, MAX}) {
            is("image(" + k + ")", x.image(k), BAD);
        }
        x.restore(0);
        is("count(1)", x.count(1), 1);
        x.restore(1);
        is("count(1)", x.count(1), 2);
        is("image(0) anew", x.image(0), 1);
        x.restore(1);
        x.restore(0);
        is("count(1): the later one", x.count(1), 2);
    }

    private void imagesKeepTheHouse() {
        due.part("restore: The HOUSE is as an IMAGE kept it (no ACT can be undone then): 1");
        MostRooms x = Due.with("room 7;room 8;room 9;door 0 1;crowd late 0 5;crowd stay 1 4;crowd few 0 2;");
        x.bell();
        x.heads(1, 9);
        x.door(1, 2, 1);
        is("image(0)", x.image(0), 1);
        is("count(4): ACTS stay", x.count(4), 3);
        int behind = x.ahead(0, 1);
        x.bell();
        x.heads(1, 1);
        x.door(0, 1, 0);
        Due.read(x, "room 1;crowd most 0 1;");
        is("restore(0)", x.restore(0), 1);
        is("count(1)", x.count(1), 3);
        is("count(2)", x.count(2), 3);
        is("count(3)", x.count(3), 1);
        is("count(4)", x.count(4), 0);
        is("undo()", x.undo(), STATE);
        is("room(2, 0)", x.room(2, 0), 9);
        is("room(1, 2)", x.room(1, 2), 5);
        is("crowd(1, 1)", x.crowd(1, 1), 9);
        is("crowd(2, 0)", x.crowd(2, 0), 1);
        is("kind(2)", x.kind(2), 5);
        is("ahead(0, 1): by what was ahead of the BELL before", x.ahead(0, 1), behind);
        is("behind it stayed, as 7 were there, and 4 here", behind, 0);
        x.bell();
        x.heads(0, 1);
        is("restore(0) again", x.restore(0), 1);
        is("crowd(0, 1)", x.crowd(0, 1), 5);
        is("count(3)", x.count(3), 1);
    }

    private void restoreLeavesAllElse() {
        due.part("restore: The HOUSE is as an IMAGE kept it: all else stays");
        MostRooms x = Due.with("room 1;crowd stay 0 5;");
        x.image(1);
        Due.read(x, "room 1;room 1;");
        x.image(0);
        Due.read(x, "room 100;");
        x.row(0, 0, 2);
        x.set(0, 1, 1);
        x.restore(1);
        x.ask(0, 0);
        x.set(0, 2, 0);
        x.feed(0x20, 1);
        is("restore(1)", x.restore(1), 1);
        is("status()", x.status(), 2);
        is("fault()", x.fault(), 2);
        is("trace(0)", x.trace(0), 13);
        is("count(6)", x.count(6), 1);
        is("count(0)", x.count(0), 1);
        is("bells(0, 1, 1)", x.bells(0, 1, 1), 6);
        is("restore(0): the other IMAGE", x.restore(0), 1);
        is("count(1)", x.count(1), 2);
    }

    private void restoreIsOfAnImage() {
        due.part("restore: BAD; STATE: none was kept");
        MostRooms x = new MostRooms();
        for (int k : new int[] {-1, 2, MIN, MAX}) {
            is("restore(" + k + "): BAD ahead of STATE", x.restore(k), BAD);
        }
        is("restore(0)", x.restore(0), STATE);
        is("restore(1)", x.restore(1), STATE);
        Due.read(x, "room 1;");
        is("restore(0) of a HOUSE without an IMAGE", x.restore(0), STATE);
        x.image(1);
        is("restore(0)", x.restore(0), STATE);
        is("restore(1)", x.restore(1), 1);
        for (int k : new int[] {-1, 2, MIN, MAX}) {
            is("restore(" + k + ")", x.restore(k), BAD);
        }
    }
}

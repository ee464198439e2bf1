import java.util.List;

/** Promises 6 to 8: each sentence of the document on the tape and its TEXTS that names a boundary. */
public final class TextEdgesTest {
    private static final int BAD = -1000001, FULL = -1000003, FAULT = -1000100;
    private static final int MIN = Integer.MIN_VALUE, MAX = Integer.MAX_VALUE;
    private static final String SIX = "room 1;".repeat(6);

    private final Due due = new Due();

    public static void main(String[] args) {
        TextEdgesTest t = new TextEdgesTest();
        t.theTapeHasFourHundredBytes();
        t.oneToEightBytesAreFed();
        t.theLowestBytesAreFedTheHighestFirst();
        t.aFullTapeIsRead();
        t.theTapeIsEmptyThen();
        t.namesAreLetters();
        t.numbersHaveThreeFiguresAtMost();
        t.eachByteBetween();
        t.blanksAreAsManyAsWanted();
        t.blanksDoNotStandWithin();
        t.aRoomIsTheLeast();
        t.roomsAreSixAtMost();
        t.seatsGoToNinetyNine();
        t.doorsAreBetweenRoomsTold();
        t.aDoorIsBetweenTwo();
        t.fromEachTheOtherIsSeen();
        t.doorsAreTwelveAtMost();
        t.aDoorToldTwiceIsTwo();
        t.crowdsAreFiveAtMost();
        t.sortsAreFiveWords();
        t.crowdsAreInRoomsTold();
        t.headsGoFromOneToFifty();
        t.partsComeInTheirOrder();
        t.theEndHasAFault();
        t.theFirstTokenIsTold();
        t.ofOneTokenTheLeastIsTold();
        t.aHouseStandsInPlaceOfTheOneBefore();
        t.aHouseLeavesAllElse();
        t.theLatestFaultIsTold();
        t.due.end();
    }

    private void is(String call, long got, long want) {
        due.is(call, got, want);
    }

    private MostRooms whole(String text, int rooms) {
        MostRooms x = new MostRooms();
        is("house() of '" + text + "'", Due.read(x, text), rooms);
        is("fault() of '" + text + "'", x.fault(), 0);
        return x;
    }

    private void faulty(String text, int place, int number) {
        MostRooms x = new MostRooms();
        is("house() of '" + text + "'", Due.read(x, text), FAULT - place);
        is("fault() of '" + text + "'", x.fault(), number);
        is("count(1) of '" + text + "'", x.count(1), 0);
    }

    private void theTapeHasFourHundredBytes() {
        due.part("THE TAPE has at most 400 bytes; FULL: none comes");
        MostRooms x = new MostRooms();
        for (int k = 1; k <= 50; k++) {
            is("feed 8", x.feed(0x2020202020202020L, 8), 8L * k);
        }
        for (int n = 1; n <= 8; n++) {
            is("feed " + n + " behind 400", x.feed(0, n), FULL);
            is("count(6)", x.count(6), 400);
        }
        for (int left = 1; left <= 7; left++) {
            MostRooms y = new MostRooms();
            Due.feed(y, " ".repeat(400 - left));
            is("feed one more than " + left, y.feed(0, left + 1), FULL);
            is("count(6): none came", y.count(6), 400 - left);
            is("feed " + left, y.feed(0, left), 400);
        }
    }

    private void oneToEightBytesAreFed() {
        due.part("feed: n bytes (1 to 8): how many it has. BAD: n");
        MostRooms x = new MostRooms();
        int all = 0;
        for (int n = 1; n <= 8; n++) {
            all += n;
            is("feed " + n, x.feed(0, n), all);
        }
        for (int n : new int[] {0, 9, -1, 400, MIN, MAX}) {
            is("feed " + n, x.feed(0, n), BAD);
        }
        Due.feed(x, " ".repeat(400 - all));
        for (int n : new int[] {0, 9, -1, MIN, MAX}) {
            is("feed " + n + ": BAD ahead of FULL", x.feed(0, n), BAD);
        }
    }

    private void theLowestBytesAreFedTheHighestFirst() {
        due.part("feed: The lowest n bytes of w, the highest of them first");
        for (int n = 1; n <= 8; n++) {
            MostRooms x = new MostRooms();
            String text = "room 37;";
            for (int i = 0; i < 8; i += n) {
                int bytes = Math.min(n, 8 - i);
                long w = -1L;
                for (int k = i; k < i + bytes; k++) {
                    w = w << 8 | text.charAt(k);
                }
                x.feed(w, bytes);
            }
            is("house() fed by " + n, x.house(), 1);
            is("room(0, 0) fed by " + n, x.room(0, 0), 37);
        }
        MostRooms y = new MostRooms();
        is("feed of a w below 0", y.feed(0xE9726F6F6D20313BL, 8), 8);
        is("house(): its highest byte is no TOKEN", y.house(), FAULT);
        is("feed of the lowest seven of it", y.feed(0xE9726F6F6D20313BL, 7), 7);
        is("house()", y.house(), 1);
    }

    private void aFullTapeIsRead() {
        due.part("house: a tape of 400 bytes; the place of a FAULT, 0 to 400");
        MostRooms x = whole("room 8;" + " ".repeat(393), 1);
        is("room(0, 0)", x.room(0, 0), 8);
        whole(" ".repeat(393) + "room 8;", 1);
        faulty(" ".repeat(394) + "room 8", 400, 1);
        faulty(" ".repeat(400), 400, 1);
        faulty(" ".repeat(399) + "x", 399, 1);
        faulty("x" + " ".repeat(399), 0, 1);
        faulty("a".repeat(400), 0, 1);
        faulty("room " + "9".repeat(395), 5, 1);
        faulty("room 1;" + ";".repeat(393), 7, 1);
        faulty("room 1;" + " ".repeat(390) + "100", 397, 1);
    }

    private void theTapeIsEmptyThen() {
        due.part("house: The tape, empty then, is read");
        MostRooms x = new MostRooms();
        is("house() of nothing", x.house(), FAULT);
        is("house()", Due.read(x, "room 5;"), 1);
        is("count(6)", x.count(6), 0);
        is("house() of nothing", x.house(), FAULT);
        is("house() of a FAULT", Due.read(x, "room 5;room"), FAULT - 11);
        is("count(6)", x.count(6), 0);
        is("house() of nothing", x.house(), FAULT);
        is("room(0, 0)", x.room(0, 0), 5);
        Due.feed(x, " ".repeat(400));
        x.house();
        is("feed anew", x.feed(0x2020202020202020L, 8), 8);
    }

    private void namesAreLetters() {
        due.part("NAMES (letters a to z)");
        for (String word : new String[] {"roo", "rooma", "rooms", "Room", "rOOM", "ROOM", "qoom", "soom", "roon",
            "rool", "moor", "a", "z", "door", "crowd", "most"}) {
            faulty(word + " 1;", 0, 1);
        }
        faulty("room`1;", 4, 1);
        faulty("room{1;", 4, 1);
        faulty("room@1;", 4, 1);
        faulty("roomA1;", 4, 1);
        faulty("rooma1;", 0, 1);
        faulty("roomz1;", 0, 1);
    }

    private void numbersHaveThreeFiguresAtMost() {
        due.part("NUMBERS (figures, 3 at most); a run of four figures or more, at its first");
        is("room(0, 0)", whole("room 7;", 1).room(0, 0), 7);
        is("room(0, 0)", whole("room 07;", 1).room(0, 0), 7);
        is("room(0, 0)", whole("room 007;", 1).room(0, 0), 7);
        is("room(0, 0)", whole("room 000;", 1).room(0, 0), 0);
        is("room(0, 0)", whole("room 099;", 1).room(0, 0), 99);
        faulty("room 0007;", 5, 1);
        faulty("room 0000;", 5, 1);
        faulty("room  1234567890123;", 6, 1);
        faulty("room 4294967297;", 5, 1);
        faulty("room 999;", 5, 2);
        faulty("room -1;", 5, 1);
        faulty("room +1;", 5, 1);
        faulty("room 1.0;", 6, 1);
    }

    /** A byte between a NUMBER of one figure and the SIGN. */
    private void eachByteBetween() {
        due.part("TOKENS: NAMES, NUMBERS, SIGNS ; bytes 32 and 10 between these: each byte");
        for (int b = 0; b <= 255; b++) {
            String text = "room 1" + (char) b + ";";
            boolean blank = b == 32 || b == 10;
            boolean figure = b >= '0' && b <= '9';
            if (blank || figure) {
                is("room(0, 0) with byte " + b, whole(text, 1).room(0, 0), blank ? 1 : 10 + b - '0');
            } else {
                faulty(text, b == ';' ? 7 : 6, 1);
            }
        }
        for (int b = 0; b <= 255; b++) {
            String text = (char) b + "room 1;";
            if (b == 32 || b == 10) {
                whole(text, 1);
            } else {
                faulty(text, 0, 1);
            }
        }
    }

    private void blanksAreAsManyAsWanted() {
        due.part("as many as wanted (none is needed where one ends without)");
        whole("room1;room2;door0 1;crowd most0 5;", 2);
        whole("room1;room2;door00 001;crowd most0 05;", 2);
        whole("\n room \n\n 1 \n ; \n room\n2\n;\n door \n 0 \n 1 \n ; crowd  \n most \n 0  5\n\n;\n \n", 2);
        whole("\n\nroom\n1\n;", 1);
        whole("room 1;crowd\nfew\n0\n1\n;", 1);
        faulty("room1;room2;door01;crowd most0 5;", 18, 1);
        faulty("room1;crowdmost0 5;", 6, 1);
        faulty("room1;crowd most05;", 16, 2);
        faulty("room1;crowd most005;", 16, 2);
    }

    private void blanksDoNotStandWithin() {
        due.part("bytes 32 and 10 ahead of, between, behind TOKENS, not within");
        faulty("ro om 1;", 0, 1);
        faulty("room 1 2;", 7, 1);
        faulty("room 1\n2;", 7, 1);
        faulty("room 1;cro wd few 0 1;", 7, 1);
        faulty("room 1;crowd fe w 0 1;", 13, 1);
    }

    private void aRoomIsTheLeast() {
        due.part("house: room { room } { door } { crowd }: one room at least, nothing else");
        whole("room 0;", 1);
        whole("room 0;room 0;", 2);
        whole("room 0;crowd few 0 1;", 1);
        whole("room 0;room 0;door 1 0;", 2);
        faulty("", 0, 1);
        faulty(" ", 1, 1);
        faulty("door 0 1;", 0, 1);
        faulty("crowd few 0 1;", 0, 1);
        faulty(";", 0, 1);
        faulty("1", 0, 1);
    }

    private void roomsAreSixAtMost() {
        due.part("ROOMS 0 .. 5, 6 at most");
        for (int n = 1; n <= 6; n++) {
            MostRooms x = whole("room 1;".repeat(n - 1) + "room 3;", n);
            is("count(1)", x.count(1), n);
            is("room(" + (n - 1) + ", 0)", x.room(n - 1, 0), 3);
            is("room(" + n + ", 0)", x.room(n, 0), BAD);
        }
        faulty(SIX + "room 1;", 42, 3);
        faulty(SIX + "  room 1;", 44, 3);
        faulty(SIX + "room", 42, 3);
        faulty(SIX + "room x", 42, 3);
        faulty(SIX + "room 100;", 42, 3);
        faulty(SIX + "rooms 1;", 42, 1);
        faulty("room 1;".repeat(57), 42, 3);
    }

    private void seatsGoToNinetyNine() {
        due.part("room: 'room' SEATS ';' (0 to 99)");
        for (int seats : new int[] {0, 1, 9, 10, 98, 99}) {
            is("room(0, 0)", whole("room " + seats + ";", 1).room(0, 0), seats);
        }
        faulty("room 100;", 5, 2);
        faulty("room 101;", 5, 2);
        faulty("room 128;", 5, 2);
        faulty("room 256;", 5, 2);
        faulty("room 999;", 5, 2);
        faulty("room 1;room 100;", 12, 2);
        faulty("room ;", 5, 1);
        faulty("room 1", 6, 1);
        faulty("room 1 room 1;", 7, 1);
    }

    private void doorsAreBetweenRoomsTold() {
        due.part("door: 'door' A B ';' (ROOMS told)");
        for (int a = 0; a < 6; a++) {
            for (int b = 0; b < 6; b++) {
                if (a != b) {
                    MostRooms x = whole(SIX + "door " + a + " " + b + ";", 6);
                    is("room(" + a + ", 2)", x.room(a, 2), 1 << b);
                    is("room(" + b + ", 2)", x.room(b, 2), 1 << a);
                }
            }
        }
        faulty(SIX + "door 6 0;", 47, 2);
        faulty(SIX + "door 0 6;", 49, 2);
        faulty(SIX + "door 6 6;", 47, 2);
        faulty("room 1;door 0 1;", 14, 2);
        faulty("room 1;door 1 0;", 12, 2);
        faulty("room 1;room 1;door 1 2;", 21, 2);
        faulty("room 1;room 1;door 2 1;", 19, 2);
        faulty("room 1;room 1;door 0 001", 24, 1);
        faulty("room 1;room 1;door 0 256;", 21, 2);
        faulty("room 1;room 1;door 256 1;", 19, 2);
        faulty("room 1;room 1;door ;", 19, 1);
        faulty("room 1;room 1;door 0 ;", 21, 1);
    }

    private void aDoorIsBetweenTwo() {
        due.part("door: unlike");
        for (int a = 0; a < 6; a++) {
            faulty(SIX + "door " + a + " " + a + ";", 49, 2);
        }
        faulty("room 1;door 0 0;", 14, 2);
        faulty("room 1;room 1;door 1 001;", 21, 2);
    }

    private void fromEachTheOtherIsSeen() {
        due.part("door: from each the other is seen");
        MostRooms x = whole("room 1;room 1;room 1;door 2 0;", 3);
        is("room(0, 2)", x.room(0, 2), 4);
        is("room(1, 2)", x.room(1, 2), 0);
        is("room(2, 2)", x.room(2, 2), 1);
    }

    private void doorsAreTwelveAtMost() {
        due.part("door: 12 at most");
        StringBuilder told = new StringBuilder(SIX);
        int n = 0;
        for (int a = 0; a < 6; a++) {
            for (int b = a + 1; b < 6 && n < 12; b++) {
                told.append("door ").append(a).append(' ').append(b).append(';');
                n++;
            }
        }
        MostRooms x = whole(told.toString(), 6);
        is("room(0, 2)", x.room(0, 2), 0b111110);
        is("room(1, 2)", x.room(1, 2), 0b111101);
        is("room(2, 2)", x.room(2, 2), 0b111011);
        is("room(3, 2)", x.room(3, 2), 0b000111);
        is("room(5, 2)", x.room(5, 2), 0b000111);
        faulty(told + "door 3 4;", 42 + 108, 3);
        faulty(told + " door", 43 + 108, 3);
        faulty(told + "door 9 9;", 42 + 108, 3);
        is("as many in a HOUSE anew", Due.read(x, told.toString()), 6);
        is("one more in a HOUSE anew", Due.read(x, told + "door 3 4;"), FAULT - 150);
        is("as many behind a FAULT", Due.read(x, told.toString()), 6);
    }

    private void aDoorToldTwiceIsTwo() {
        due.part("door: one told twice is two");
        String two = "room 1;room 1;";
        MostRooms x = whole(two + "door 0 1;".repeat(12), 2);
        is("room(0, 2)", x.room(0, 2), 2);
        faulty(two + "door 0 1;".repeat(13), 14 + 108, 3);
        faulty(two + "door 0 1;door 1 0;".repeat(6) + "door 1 0;", 14 + 108, 3);
    }

    private void crowdsAreFiveAtMost() {
        due.part("CROWDS 0 .. 4, 5 at most");
        for (int n = 0; n <= 5; n++) {
            MostRooms x = whole("room 1;" + "crowd few 0 9;".repeat(n), 1);
            is("count(2)", x.count(2), n);
            is("crowd(" + n + ", 0)", x.crowd(n, 0), BAD);
            is("crowd(" + (n - 1) + ", 1)", x.crowd(n - 1, 1), n == 0 ? BAD : 9);
        }
        String five = "room 1;" + "crowd few 0 9;".repeat(5);
        faulty(five + "crowd few 0 9;", 77, 3);
        faulty(five + "\ncrowd", 78, 3);
        faulty(five + "crowd 100", 77, 3);
        faulty(five + "crowds", 77, 1);
    }

    private void sortsAreFiveWords() {
        due.part("SORT: 'most' | 'few' | 'like' | 'late' | 'stay'");
        String[] sorts = {"most", "like", "late", "stay", "few"};
        for (int k = 0; k < 5; k++) {
            is("kind(0) of " + sorts[k], whole("room 1;crowd " + sorts[k] + " 0 1;", 1).kind(0), k + 1);
        }
        for (String no : new String[] {"mos", "mosts", "nost", "fe", "fewe", "lik", "likes", "lates", "lat", "stays",
            "sta", "room", "crowd", "door", "a", "MOST", ";", "0 0", "1000"}) {
            faulty("room 1;crowd " + no + " 0 1;", 13, 1);
        }
        faulty("room 1;crowd most most 0 1;", 18, 1);
    }

    private void crowdsAreInRoomsTold() {
        due.part("crowd: a ROOM told");
        for (int r = 0; r < 6; r++) {
            is("crowd(0, 0)", whole(SIX + "crowd few " + r + " 1;", 6).crowd(0, 0), r);
        }
        faulty(SIX + "crowd few 6 1;", 52, 2);
        faulty("room 1;crowd few 1 1;", 17, 2);
        faulty("room 1;room 1;crowd few 2 1;", 24, 2);
        faulty("room 1;crowd few 256 1;", 17, 2);
        faulty("room 1;crowd few ;", 17, 1);
    }

    private void headsGoFromOneToFifty() {
        due.part("crowd: HEADS (1 to 50)");
        for (int n : new int[] {1, 2, 49, 50}) {
            is("crowd(0, 1)", whole("room 1;crowd few 0 " + n + ";", 1).crowd(0, 1), n);
        }
        is("crowd(0, 1)", whole("room 1;crowd few 0 050;", 1).crowd(0, 1), 50);
        for (int n : new int[] {0, 51, 99, 100, 257, 999}) {
            faulty("room 1;crowd few 0 " + n + ";", 19, 2);
        }
        faulty("room 1;crowd few 0 000;", 19, 2);
        faulty("room 1;crowd few 0 0050;", 19, 1);
        faulty("room 1;crowd few 0 ;", 19, 1);
        faulty("room 1;crowd few 0 1 1;", 21, 1);
    }

    private void partsComeInTheirOrder() {
        due.part("1 it cannot stand there: rooms, then doors, then crowds");
        String two = "room 1;room 1;";
        whole(two + "door 0 1;crowd few 0 1;", 2);
        faulty(two + "door 0 1;room 1;", 23, 1);
        faulty(two + "crowd few 0 1;room 1;", 28, 1);
        faulty(two + "crowd few 0 1;door 0 1;", 28, 1);
        faulty(two + "door 0 1;crowd few 0 1;door 0 1;", 37, 1);
        faulty(two + "few 0 1;", 14, 1);
        faulty(two + "1;", 14, 1);
        faulty(two + ";", 14, 1);
    }

    /** A text that is cut off anywhere: within a word it is the word, else the end. */
    private void theEndHasAFault() {
        due.part("1 the end: how many bytes there are");
        String text = "room 1;room 2;door 0 1;crowd most 0 5;crowd late 1 7;";
        List<String> words = List.of("room", "door", "crowd", "most", "late");
        for (int n = 0; n <= text.length(); n++) {
            String cut = text.substring(0, n);
            int word = n;
            while (word > 0 && Character.isLetter(cut.charAt(word - 1))) {
                word--;
            }
            boolean part = word < n && !words.contains(cut.substring(word));
            if (n > 0 && cut.charAt(n - 1) == ';') {
                whole(cut, n == 7 ? 1 : 2);
                whole(cut + " \n", n == 7 ? 1 : 2);
            } else {
                faulty(cut, part ? word : n, 1);
                faulty(cut + " \n ", part ? word : n + 3, 1);
            }
        }
    }

    private void theFirstTokenIsTold() {
        due.part("FAULTS, the first TOKEN that has one");
        faulty("room 100;room 1000;x", 5, 2);
        faulty("room 1;x;room 100;", 7, 1);
        faulty("x " + SIX + "room 1;", 0, 1);
        faulty(SIX + "room 100;x", 42, 3);
        faulty("room 1;room 1;door 5 5;", 19, 2);
        faulty("room 1;crowd few 3 99;", 17, 2);
        faulty("room 1;crowd most 0 51 51;", 20, 2);
        faulty("room 1;crowd none 9 99;", 13, 1);
    }

    private void ofOneTokenTheLeastIsTold() {
        due.part("of one TOKEN the least");
        String doors = "door 0 1;".repeat(12);
        String crowds = "crowd few 0 1;".repeat(5);
        faulty(SIX + "door 0 1;room 1;", 51, 1);
        faulty(SIX + "crowd few 0 1;room 1;", 56, 1);
        faulty(SIX + doors + "crowd few 0 1;door 0 1;", 164, 1);
        faulty(SIX + doors + crowds + "door 0 1;", 220, 1);
        faulty(SIX + doors + crowds + "room 1;", 220, 1);
        faulty(SIX + doors + crowds + "crowd few 0 1;", 220, 3);
        faulty("room 9999;", 5, 1);
        faulty("room 1;crowd few 0 9999;", 19, 1);
    }

    private void aHouseStandsInPlaceOfTheOneBefore() {
        due.part("A HOUSE that is read stands in place of the one before (none at first): BELL 0; no ACT");
        MostRooms x = new MostRooms();
        is("count(1): none at first", x.count(1), 0);
        Due.read(x, SIX + "door 0 1;door 2 3;door 4 5;" + "crowd few 5 9;".repeat(5));
        x.bell();
        x.heads(0, 1);
        is("house()", Due.read(x, "room 8;room 8;crowd late 1 3;"), 2);
        is("count(1)", x.count(1), 2);
        is("count(2)", x.count(2), 1);
        is("count(3): BELL 0 is to come", x.count(3), 0);
        is("count(4): no ACT can be undone", x.count(4), 0);
        is("count(5)", x.count(5), 3);
        is("undo()", x.undo(), -1000002);
        is("room(0, 0)", x.room(0, 0), 8);
        is("room(0, 2): no DOOR of before", x.room(0, 2), 0);
        is("room(2, 0): no ROOM of before", x.room(2, 0), BAD);
        is("crowd(1, 0): no CROWD of before", x.crowd(1, 0), BAD);
        is("kind(0)", x.kind(0), 3);
        Due.read(x, SIX + "door 0 1;door 2 3;door 4 5;");
        Due.read(x, SIX);
        for (int r = 0; r < 6; r++) {
            is("room(" + r + ", 2): no DOOR of before", x.room(r, 2), 0);
        }
        MostRooms y = Due.with("room 1;room 1;door 0 1;crowd late 0 1;crowd stay 0 9;");
        y.bell();
        Due.read(y, "room 1;room 1;door 0 1;crowd late 0 1;crowd stay 1 9;");
        is("bell() 0 again: as it is", y.bell(), 1);
    }

    private void aHouseLeavesAllElse() {
        due.part("IMAGES and ROWS stay");
        MostRooms x = Due.with("room 8;crowd late 0 3;");
        x.image(0);
        x.row(0, 2, 11);
        x.set(0, 10, 1);
        x.ask(0, 1);
        x.set(0, 11, 0);
        Due.read(x, "room 7;room 7;");
        x.image(1);
        is("house()", Due.read(x, "room 1;room 1;room 1;crowd few 0 1;"), 3);
        is("count(0)", x.count(0), 1);
        is("trace(0)", x.trace(0), 22);
        is("status()", x.status(), 2);
        is("restore(0)", x.restore(0), 1);
        is("count(1)", x.count(1), 1);
        is("restore(1)", x.restore(1), 1);
        is("count(1)", x.count(1), 2);
        is("restore(0)", x.restore(0), 1);
        is("bells(0, 10, 1): its ITEM", x.bells(0, 10, 1), 4);
        is("drop(0)", x.drop(0), 11);
    }

    private void theLatestFaultIsTold() {
        due.part("fault: The number of the latest FAULT; 0 before one");
        MostRooms x = new MostRooms();
        is("fault()", x.fault(), 0);
        Due.read(x, "room 1;");
        is("fault() behind a HOUSE", x.fault(), 0);
        Due.read(x, "room 100;");
        is("fault()", x.fault(), 2);
        Due.read(x, "room 1;".repeat(7));
        is("fault()", x.fault(), 3);
        Due.read(x, "room 1");
        is("fault()", x.fault(), 1);
        Due.read(x, "room 100;");
        Due.read(x, "room 1;");
        is("fault() stays behind a HOUSE", x.fault(), 2);
        x.row(0, 0, -1);
        x.bell();
        x.image(0);
        x.restore(0);
        x.undo();
        x.feed(0, 9);
        is("fault() stays behind other calls", x.fault(), 2);
        is("another object's fault()", new MostRooms().fault(), 0);
    }
}

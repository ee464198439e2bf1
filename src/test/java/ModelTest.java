import java.nio.charset.StandardCharsets;
import java.util.ArrayList;
import java.util.List;
import java.util.Random;

/** Long runs of calls, drawn from fixed seeds, on the program and on the model. */
public final class ModelTest {
    private static final int RUNS = 1500, CALLS = 300;
    private static final int[] ODD = {Integer.MIN_VALUE, -1000000, -2, -1, 0, 1, 5, 6, 7, 8, 39, 40, 41, 61,
        100, 9999, 1 << 20, Integer.MAX_VALUE};

    private final Random random;
    private final MostRooms x = new MostRooms();
    private final Model m = new Model();
    private final List<String> calls = new ArrayList<>();
    private final boolean dear;

    private ModelTest(long seed) {
        random = new Random(seed);
        dear = seed % 10 == 0;
    }

    public static void main(String[] args) {
        int runs = args.length > 0 ? Integer.parseInt(args[0]) : RUNS;
        long first = args.length > 1 ? Long.parseLong(args[1]) : 1;
        for (long seed = first; seed < first + runs; seed++) {
            if (!new ModelTest(seed).run()) {
                System.out.println("the run of seed " + seed + " differs");
                System.exit(1);
            }
        }
        System.out.println(runs + " runs, the program answers as the model does");
    }

    private boolean run() {
        for (int k = 0; k < CALLS; k++) {
            int kind = random.nextInt(100);
            boolean same = kind < 4 || k == 0 ? readSomeText() : kind < 60 ? commonCall() : anyCall();
            if (!same) {
                return tell();
            }
        }
        return true;
    }

    private boolean tell() {
        for (String c : calls) {
            System.out.println(c);
        }
        return false;
    }

    private boolean same(String call, int got, int want) {
        calls.add(call + " answered " + got + (got == want ? "" : ", the model " + want));
        return got == want;
    }

    // ---- texts

    private int upTo(int most) {
        return random.nextInt(most + 1);
    }

    private String blank() {
        String[] blanks = {" ", "  ", "\n", " \n "};
        return blanks[upTo(3)];
    }

    private String maybeBlank() {
        return upTo(3) == 0 ? blank() : "";
    }

    private void part(StringBuilder text, Object... tokens) {
        boolean word = false;
        for (Object t : tokens) {
            String s = t.toString();
            boolean figure = Character.isDigit(s.charAt(0));
            boolean letter = Character.isLetter(s.charAt(0));
            text.append(text.length() > 0 && apart(text.charAt(text.length() - 1), letter, figure) ? blank()
                : maybeBlank());
            text.append(s);
        }
    }

    private static boolean apart(char last, boolean letter, boolean figure) {
        return letter && Character.isLetter(last) || figure && Character.isDigit(last);
    }

    private String text() {
        StringBuilder text = new StringBuilder();
        int rooms = 1 + upTo(dear ? 5 : 3);
        int doors = rooms == 1 ? 0 : upTo(upTo(1) == 0 ? 12 : 6);
        int crowds = upTo(dear ? 5 : 4);
        for (int r = 0; r < rooms; r++) {
            part(text, "room", upTo(upTo(1) == 0 ? 99 : 12), ";");
        }
        for (int d = 0; d < doors; d++) {
            int a = upTo(rooms - 1);
            part(text, "door", a, (a + 1 + upTo(rooms - 2)) % rooms, ";");
        }
        String[] sorts = {"most", "few", "like", "late", "stay", "late", "most", "few"};
        for (int c = 0; c < crowds; c++) {
            part(text, "crowd", sorts[upTo(7)], upTo(rooms - 1), 1 + upTo(upTo(1) == 0 ? 49 : 8), ";");
        }
        return text.append(maybeBlank()).toString();
    }

    private String spoilt(String text) {
        String[] pieces = {"room", "door", "crowd", ";", "0", "1", "7", "100", "0099", "51", "few", "x", " ", "\n",
            "\u00e9", "A", "room 4;", "door 0 1;", "crowd few 0 3;"};
        StringBuilder s = new StringBuilder(text);
        for (int k = upTo(2); k >= 0; k--) {
            int at = upTo(s.length());
            if (upTo(1) == 0) {
                s.insert(at, pieces[upTo(pieces.length - 1)]);
            } else {
                s.delete(at, Math.min(s.length(), at + 1 + upTo(5)));
            }
        }
        return s.toString();
    }

    private String crowded() {
        StringBuilder s = new StringBuilder();
        for (int r = 5 + upTo(2); r > 0; r--) {
            s.append("room1;");
        }
        for (int d = 11 + upTo(2); d > 0; d--) {
            s.append("door0 1;");
        }
        for (int c = 4 + upTo(2); c > 0; c--) {
            s.append("crowd most0 1;");
        }
        return s.toString();
    }

    private boolean readSomeText() {
        int kind = upTo(9);
        String text = kind == 0 ? crowded() : kind <= 2 ? spoilt(text()) : text();
        byte[] bytes = text.getBytes(StandardCharsets.ISO_8859_1);
        for (int i = 0; i < bytes.length; ) {
            int n = Math.min(1 + upTo(7), bytes.length - i);
            long w = random.nextLong();
            for (int k = 0; k < n; k++) {
                w = w << 8 | bytes[i + k] & 255;
            }
            if (!same("feed(" + w + ", " + n + ")", x.feed(w, n), m.feed(w, n))) {
                return false;
            }
            i += n;
        }
        return same("house() of " + text, x.house(), m.house()) && same("fault()", x.fault(), m.fault());
    }

    // ---- calls

    /** Mostly a number that is as told. */
    private int number(int least, int most) {
        return upTo(24) == 0 ? ODD[upTo(ODD.length - 1)] : least + upTo(most - least);
    }

    private boolean commonCall() {
        int c = number(0, 4);
        int n = number(0, 60);
        switch (upTo(6)) {
            case 0: case 1: case 2: return same("bell()", x.bell(), m.bell());
            case 3: return same("heads(" + c + ", " + n + ")", x.heads(c, n), m.heads(c, n));
            case 4: {
                int a = number(0, 4);
                int b = number(0, 4);
                int is = number(0, 1);
                return same("door(" + a + ", " + b + ", " + is + ")", x.door(a, b, is), m.door(a, b, is));
            }
            case 5: {
                int k = number(0, 4);
                return same("crowd(" + k + ", 0)", x.crowd(k, 0), m.crowd(k, 0));
            }
            default: {
                int what = number(0, 6);
                return same("count(" + what + ")", x.count(what), m.count(what));
            }
        }
    }

    private boolean anyCall() {
        int kind = upTo(27);
        return kind < 9 ? rowCall(kind) : kind < 19 ? foretellingCall(kind) : otherCall(kind);
    }

    private boolean rowCall(int kind) {
        int row = number(0, 2);
        int i = number(0, 12);
        int n = number(0, 24);
        switch (kind) {
            case 0: {
                int lane = number(0, 2);
                return same("row(" + row + ", " + lane + ", " + n + ")", x.row(row, lane, n), m.row(row, lane, n));
            }
            case 1: case 2: case 3: {
                int v = upTo(3) == 0 ? random.nextInt() : upTo(15);
                return same("set(" + row + ", " + i + ", " + v + ")", x.set(row, i, v), m.set(row, i, v));
            }
            case 4: {
                int b = number(0, 2);
                int j = number(0, 12);
                return same("copy(" + row + ", " + i + ", " + b + ", " + j + ", " + n + ")",
                    x.copy(row, i, b, j, n), m.copy(row, i, b, j, n));
            }
            case 5:
                return upTo(3) > 0 || same("drop(" + row + ")", x.drop(row), m.drop(row));
            case 6: case 7: {
                int short_ = upTo(2) == 0 ? n : number(1, 3);
                return same("bells(" + row + ", " + i + ", " + short_ + ")",
                    x.bells(row, i, short_), m.bells(row, i, short_));
            }
            default:
                return same("status()", x.status(), m.status());
        }
    }

    private boolean foretellingCall(int kind) {
        int c = number(0, 4);
        int r = number(0, 5);
        int n = number(0, 60);
        int few = number(1, 20);
        int what = number(0, 1);
        switch (kind) {
            case 9: return same("ahead(" + c + ", " + n + ")", x.ahead(c, n), m.ahead(c, n));
            case 10: case 11: return same("roomAhead(" + r + ", " + n + ", " + what + ")",
                x.roomAhead(r, n, what), m.roomAhead(r, n, what));
            case 12: case 13: return same("rest(" + what + ")", x.rest(what), m.rest(what));
            case 14: return same("hired(" + r + ", " + few + ", " + what + ")",
                x.hired(r, few, what), m.hired(r, few, what));
            case 15: return same("empty(" + r + ", " + few + ", " + what + ")",
                x.empty(r, few, what), m.empty(r, few, what));
            case 16: {
                int b = number(0, 4);
                return same("apart(" + c + ", " + b + ", " + n + ")", x.apart(c, b, n), m.apart(c, b, n));
            }
            case 17: {
                int k = number(-1, 4);
                int bells = dear ? number(0, 3) : number(0, 9);
                return same("began(" + k + ", " + bells + ")", x.began(k, bells), m.began(k, bells));
            }
            default: return same("room(" + r + ", " + what + ")", x.room(r, what), m.room(r, what))
                && same("room(" + r + ", 2)", x.room(r, 2), m.room(r, 2));
        }
    }

    private boolean otherCall(int kind) {
        int c = number(0, 4);
        int k = number(0, 1);
        switch (kind) {
            case 19: return same("image(" + k + ")", x.image(k), m.image(k));
            case 20: return same("restore(" + k + ")", x.restore(k), m.restore(k));
            case 21: return same("kind(" + c + ")", x.kind(c), m.kind(c));
            case 22: {
                int as = number(0, 5);
                return same("as(" + c + ", " + as + ")", x.as(c, as), m.as(c, as));
            }
            case 23: return same("ask(" + c + ", " + k + ")", x.ask(c, k), m.ask(c, k));
            case 24: {
                int i = number(0, 6);
                return same("trace(" + i + ")", x.trace(i), m.trace(i));
            }
            case 25: case 26: return undoSome();
            default: {
                long w = random.nextLong();
                int n = number(1, 8);
                return upTo(9) > 0 || same("feed(" + w + ", " + n + ")", x.feed(w, n), m.feed(w, n));
            }
        }
    }

    private boolean undoSome() {
        for (int k = upTo(9) == 0 ? upTo(26) : upTo(2); k >= 0; k--) {
            if (!same("undo()", x.undo(), m.undo())) {
                return false;
            }
        }
        return true;
    }
}

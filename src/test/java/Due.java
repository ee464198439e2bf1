import java.nio.charset.StandardCharsets;

/** Counts the answers that are not the ones that are due, and feeds texts. */
final class Due {
    private int wrong = 0;
    private int looked = 0;
    private String part = "";

    void part(String name) {
        part = name;
    }

    void is(String call, long got, long want) {
        looked++;
        if (got != want) {
            wrong++;
            System.out.println(part + ": " + call + " answered " + got + ", due is " + want);
        }
    }

    /** Whether every answer so far was as due. */
    boolean clean() {
        return wrong == 0;
    }

    void end() {
        System.out.println(wrong == 0 ? looked + " answers, all as due" : wrong + " answers are not as due");
        if (wrong != 0) {
            System.exit(1);
        }
    }

    static void feed(MostRooms x, String text) {
        byte[] bytes = text.getBytes(StandardCharsets.ISO_8859_1);
        for (int i = 0; i < bytes.length; i += 8) {
            int n = Math.min(8, bytes.length - i);
            long w = 0;
            for (int k = 0; k < n; k++) {
                w = w << 8 | bytes[i + k] & 255;
            }
            x.feed(w, n);
        }
    }

    static int read(MostRooms x, String text) {
        feed(x, text);
        return x.house();
    }

    static MostRooms with(String text) {
        MostRooms x = new MostRooms();
        if (read(x, text) < 0) {
            throw new IllegalArgumentException(text);
        }
        return x;
    }
}

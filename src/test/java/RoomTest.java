import java.lang.management.ManagementFactory;

/** The calls make no object: what is needed is made with the object itself, and used again. */
public final class RoomTest {
    private static final String DEAR = "room 1;room 1;room 1;room 1;room 1;room 1;"
        + "door 0 1;door 1 2;door 2 3;door 3 4;door 4 5;door 5 0;door 0 2;door 0 3;door 0 4;"
        + "crowd most 0 12;crowd few 1 7;crowd like 2 9;crowd late 3 30;crowd like 1 15;";
    private static final long BYTES_MOST = 20000;

    public static void main(String[] args) {
        MostRooms x = Due.with(DEAR);
        callAll(x);
        long before = allocated();
        callAll(x);
        long made = allocated() - before;
        long beforeNew = allocated();
        MostRooms another = new MostRooms();
        long ofNew = allocated() - beforeNew;
        System.out.println("all calls made " + made + " bytes, a new object " + ofNew + ", rooms " + another.count(1));
        if (made > BYTES_MOST || ofNew > BYTES_MOST) {
            System.out.println("more than " + BYTES_MOST + " bytes");
            System.exit(1);
        }
    }

    private static long allocated() {
        com.sun.management.ThreadMXBean threads =
            (com.sun.management.ThreadMXBean) ManagementFactory.getThreadMXBean();
        return threads.getThreadAllocatedBytes(Thread.currentThread().getId());
    }

    private static void callAll(MostRooms x) {
        Due.read(x, DEAR);
        x.row(0, 0, 30);
        x.set(0, 1, 3);
        x.copy(0, 0, 0, 3, 20);
        x.bell();
        x.bells(0, 0, 24);
        x.door(0, 5, 0);
        x.heads(0, 20);
        x.undo();
        x.image(0);
        x.restore(0);
        x.rest(0);
        x.rest(1);
        x.began(-1, 9);
        for (int r = 0; r < 6; r++) {
            x.hired(r, 20, 0);
            x.empty(r, 20, 0);
            x.roomAhead(r, 60, 1);
        }
        for (int c = 0; c < 5; c++) {
            x.apart(c, (c + 1) % 5, 60);
            x.ahead(c, 60);
            x.as(c, 5);
            x.ask(c, 0);
            x.ask(c, 1);
        }
        x.trace(0);
        x.drop(0);
    }
}

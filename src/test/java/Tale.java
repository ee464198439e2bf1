import java.util.ArrayList;
import java.util.List;

/**
 * All that can be learned of an object, as a list of numbers, without status() and fault(), which are looked at apart.
 * To learn it all the object is used up: ACTS are undone, IMAGES restored, ROWS dropped, the tape is read.
 */
final class Tale {
    private static final int BELOW_ALL = -900000;

    private final MostRooms x;
    private final List<Integer> told = new ArrayList<>();

    private Tale(MostRooms x) {
        this.x = x;
    }

    static List<Integer> of(MostRooms x) {
        Tale t = new Tale(x);
        t.trace();
        t.house();
        t.acts();
        t.rows();
        t.images();
        t.tape();
        return t.told;
    }

    private int tell(int answer) {
        told.add(answer);
        return answer;
    }

    private void trace() {
        for (int i = 0; i <= 16 && tell(x.trace(i)) > BELOW_ALL; i++) {
            continue;
        }
    }

    private void house() {
        for (int what = 0; what <= 6; what++) {
            tell(x.count(what));
        }
        int crowds = x.count(2);
        for (int c = 0; c < crowds; c++) {
            tell(x.crowd(c, 0));
            tell(x.crowd(c, 1));
            tell(x.kind(c));
            tell(x.ahead(c, 1));
            tell(x.ahead(c, 2));
        }
        int rooms = x.count(1);
        for (int r = 0; r < rooms; r++) {
            for (int what = 0; what <= 2; what++) {
                tell(x.room(r, what));
            }
        }
    }

    private void acts() {
        while (tell(x.undo()) >= 0) {
            tell(x.count(3));
            tell(x.count(5));
            for (int r = 0; r < x.count(1); r++) {
                tell(x.room(r, 1));
                tell(x.room(r, 2));
            }
        }
    }

    /** An ITEM that is a set of CROWDS is told by how many HEADS are more; the LANE by what 70000 becomes in it. */
    private void rows() {
        for (int row = 0; row < 8; row++) {
            for (int i = 0; i < 4 && tell(x.bells(row, i, 1)) >= 0; i++) {
                tell(x.undo());
            }
            tell(x.set(row, 0, 70000));
            tell(x.drop(row));
        }
    }

    private void images() {
        for (int k = 0; k <= 1; k++) {
            if (tell(x.restore(k)) >= 0) {
                house();
            }
        }
    }

    private void tape() {
        tell(x.count(6));
        tell(x.house());
        tell(x.count(1));
        tell(x.room(0, 0));
    }
}

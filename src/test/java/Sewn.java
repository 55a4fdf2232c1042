import java.util.ArrayList;
import java.util.List;

/** The ball as the document's table has it, for the tests; nothing here is asked of the class. */
final class Sewn {
    static final int[][] BALL = {
        {1, 2, 3, 4, 5}, {0, 5, 10, 6, 2}, {0, 1, 6, 7, 3}, {0, 2, 7, 8, 4}, {0, 3, 8, 9, 5}, {0, 4, 9, 10, 1},
        {1, 10, 11, 7, 2}, {2, 6, 11, 8, 3}, {3, 7, 11, 9, 4}, {4, 8, 11, 10, 5}, {5, 9, 11, 6, 1}, {10, 9, 8, 7, 6},
    };

    private Sewn() {
    }

    /** The side of a field at which another is, or -1. */
    static int sideOf(int field, int other) {
        for (int side = 0; side < 5; side++) {
            if (BALL[field][side] == other) {
                return side;
            }
        }
        return -1;
    }

    static boolean areBeside(int field, int other) {
        return sideOf(field, other) >= 0;
    }

    /** All thirty pairs that are beside one another, the lower field first. */
    static List<int[]> pairs() {
        List<int[]> pairs = new ArrayList<>();
        for (int field = 0; field < 12; field++) {
            for (int other = field + 1; other < 12; other++) {
                if (areBeside(field, other)) {
                    pairs.add(new int[] {field, other});
                }
            }
        }
        return pairs;
    }

    /** The field and side of one behind a step from a field, come in by a side. */
    static int[] stepped(int field, int side, int turn) {
        int next = BALL[field][(side + turn) % 5];
        return new int[] {next, sideOf(next, field)};
    }
}

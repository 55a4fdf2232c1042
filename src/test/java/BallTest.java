/** Promises 6 to 10: the ball and its turnings. */
public final class BallTest {
    private static final int UNKNOWN = -2;
    private static final int[][] SEWN = Sewn.BALL;
    private static final int[] OPPOSITE = {11, 8, 9, 10, 6, 7, 4, 5, 1, 2, 3, 0};

    private static final Checks checks = new Checks();
    private static final BallTown town = new BallTown();

    public static void main(String[] args) {
        besideAndSide();
        farAndOther();
        goes();
        refusals();
        wallsAndTurnsLeaveTheBall();
        checks.end("BallTest");
    }

    private static void besideAndSide() {
        for (int field = 0; field < 12; field++) {
            for (int other = 0; other < 12; other++) {
                checks.due("side(" + field + ", " + other + ")", town.side(field, other), Sewn.sideOf(field, other));
            }
            for (int side = 0; side < 5; side++) {
                checks.due("beside(" + field + ", " + side + ")", town.beside(field, side), SEWN[field][side]);
            }
        }
    }

    private static void farAndOther() {
        for (int field = 0; field < 12; field++) {
            checks.due("other(" + field + ")", town.other(field), OPPOSITE[field]);
            for (int other = 0; other < 12; other++) {
                int want = field == other ? 0 : OPPOSITE[field] == other ? 3 : Sewn.areBeside(field, other) ? 1 : 2;
                checks.due("far(" + field + ", " + other + ")", town.far(field, other), want);
            }
        }
    }

    /** Each turning is looked at by the words of the document alone: one to one, beside stays so, on stays on. */
    private static void goes() {
        for (int a = 0; a < 12; a++) {
            for (int s = 0; s < 5; s++) {
                String turning = "turning (" + a + ", " + s + ")";
                checks.due(turning + " of 0", town.goes(a, s, 0), a);
                checks.due(turning + " of 1", town.goes(a, s, 1), SEWN[a][s]);
                int goals = 0;
                for (int field = 0; field < 12; field++) {
                    int goal = town.goes(a, s, field);
                    goals |= 1 << goal;
                    int shift = Sewn.sideOf(goal, town.goes(a, s, SEWN[field][0]));
                    for (int side = 0; side < 5; side++) {
                        checks.due(turning + " at side " + side + " of " + field,
                            town.goes(a, s, SEWN[field][side]), SEWN[goal][(side + shift) % 5]);
                    }
                }
                checks.due(turning + " reaches all", goals, 4095);
            }
        }
    }

    private static void refusals() {
        for (int bad : Checks.noFields()) {
            checks.due("beside(" + bad + ", 0)", town.beside(bad, 0), UNKNOWN);
            checks.due("side(" + bad + ", 0)", town.side(bad, 0), UNKNOWN);
            checks.due("side(0, " + bad + ")", town.side(0, bad), UNKNOWN);
            checks.due("far(" + bad + ", 0)", town.far(bad, 0), UNKNOWN);
            checks.due("far(0, " + bad + ")", town.far(0, bad), UNKNOWN);
            checks.due("far(bad, bad)", town.far(bad, bad), UNKNOWN);
            checks.due("side(bad, bad)", town.side(bad, bad), UNKNOWN);
            checks.due("other(" + bad + ")", town.other(bad), UNKNOWN);
            checks.due("goes(" + bad + ", 0, 0)", town.goes(bad, 0, 0), UNKNOWN);
            checks.due("goes(0, 0, " + bad + ")", town.goes(0, 0, bad), UNKNOWN);
        }
        for (int bad : Checks.noSides()) {
            checks.due("beside(0, " + bad + ")", town.beside(0, bad), UNKNOWN);
            checks.due("goes(0, " + bad + ", 0)", town.goes(0, bad, 0), UNKNOWN);
        }
    }

    private static void wallsAndTurnsLeaveTheBall() {
        BallTown walled = Checks.townOf("wall 0 1;wall 0 2;wheat 3");
        walled.rotate(3, 1);
        checks.due("beside(0, 0) with a wall", walled.beside(0, 0), 1);
        checks.due("side(0, 2) with a wall", walled.side(0, 2), 1);
        checks.due("far(0, 1) with a wall", walled.far(0, 1), 1);
        checks.due("goes(0, 1, 1) with a wall", walled.goes(0, 1, 1), 2);
    }
}

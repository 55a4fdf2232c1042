import java.util.HashSet;
import java.util.Set;

/** The edges of promises 6 to 10. Each test is named by the document's words that it holds the class to. */
public final class EdgesOfBallTest {
    private static final int NONE = -1, UNKNOWN = -2;
    private static final Checks checks = new Checks();
    private static final BallTown town = new BallTown();

    public static void main(String[] args) {
        firstAndLastFields();
        firstAndLastSides();
        behindSideFourComesNought();
        sideOfNone();
        farOfItselfAndMost();
        theOtherIsTheOneThatIsFarThree();
        noughtAndOneOfATurning();
        thereAreSixty();
        wallsAreNothingToTheBall();
        checks.end("EdgesOfBallTest");
    }

    /** "FIELDS are 0 .. 11": each call in each of its places. */
    private static void firstAndLastFields() {
        int[] fields = {-1, 0, 11, 12};
        long[][] want = {
            {UNKNOWN, 1, 10, UNKNOWN}, {UNKNOWN, NONE, 1, UNKNOWN}, {UNKNOWN, NONE, 2, UNKNOWN}, {UNKNOWN, 2, 1, UNKNOWN},
            {UNKNOWN, 2, 1, UNKNOWN}, {UNKNOWN, 11, 0, UNKNOWN}, {UNKNOWN, 1, 10, UNKNOWN}, {UNKNOWN, 8, 1, UNKNOWN},
        };
        for (int i = 0; i < fields.length; i++) {
            int f = fields[i];
            checks.due("beside(" + f + ", 0)", town.beside(f, 0), want[0][i]);
            checks.due("side(" + f + ", 9)", town.side(f, 9), want[1][i]);
            checks.due("side(9, " + f + ")", town.side(9, f), want[2][i]);
            checks.due("far(" + f + ", 9)", town.far(f, 9), want[3][i]);
            checks.due("far(9, " + f + ")", town.far(9, f), want[4][i]);
            checks.due("other(" + f + ")", town.other(f), want[5][i]);
            checks.due("goes(" + f + ", 0, 1)", town.goes(f, 0, 1), want[6][i]);
            checks.due("goes(8, 0, " + f + ")", town.goes(8, 0, f), want[7][i]);
        }
    }

    /** "SIDES 0 .. 4" */
    private static void firstAndLastSides() {
        int[] sides = {-1, 0, 4, 5};
        long[] want = {UNKNOWN, 4, 5, UNKNOWN};
        for (int i = 0; i < sides.length; i++) {
            checks.due("beside(9, " + sides[i] + ")", town.beside(9, sides[i]), want[i]);
            checks.due("goes(9, " + sides[i] + ", 1)", town.goes(9, sides[i], 1), want[i]);
        }
    }

    /** "ON one behind the other around it (behind 4: 0)": what is at SIDE 4 of a FIELD is BESIDE what is at 0. */
    private static void behindSideFourComesNought() {
        for (int field = 0; field < 12; field++) {
            for (int side = 0; side < 5; side++) {
                int next = town.beside(field, (side + 1) % 5);
                checks.due("beside one another around " + field, town.far(town.beside(field, side), next), 1);
            }
        }
        for (int s = 0; s < 5; s++) {
            for (int side = 0; side < 5; side++) {
                int goal = Sewn.BALL[4][(s + side) % 5];
                checks.due("goes(4, " + s + ", " + (side + 1) + ")", town.goes(4, s, side + 1), goal);
            }
        }
    }

    /** "The SIDE of a FIELD at which another one is; NONE: it is not BESIDE." */
    private static void sideOfNone() {
        int none = 0;
        for (int field = 0; field < 12; field++) {
            checks.due("no field is beside itself", town.side(field, field), NONE);
            checks.due("nor beside its other", town.side(field, town.other(field)), NONE);
            for (int other = 0; other < 12; other++) {
                none += town.side(field, other) == NONE ? 1 : 0;
            }
        }
        checks.due("of 144 are not beside", none, 144 - 60);
        checks.due("at side 0", town.side(0, 1), 0);
        checks.due("at side 4", town.side(0, 5), 4);
    }

    /** "FAR is how many such steps one is from another": none from itself, three at most. */
    private static void farOfItselfAndMost() {
        int[] found = new int[4];
        for (int field = 0; field < 12; field++) {
            checks.due("far of itself", town.far(field, field), 0);
            for (int other = 0; other < 12; other++) {
                checks.due("there and back", town.far(field, other), town.far(other, field));
                found[town.far(field, other)]++;
            }
        }
        int[] want = {12, 60, 60, 12};
        for (int far = 0; far < 4; far++) {
            checks.due("that are far " + far, found[far], want[far]);
        }
    }

    /** "the OTHER of a FIELD is the one that is FAR 3" */
    private static void theOtherIsTheOneThatIsFarThree() {
        for (int field = 0; field < 12; field++) {
            for (int other = 0; other < 12; other++) {
                checks.due("far 3", town.other(field) == other ? 1 : 0, town.far(field, other) == 3 ? 1 : 0);
            }
            checks.due("the other's other", town.other(town.other(field)), field);
        }
    }

    /** "0 goes to a, 1 to the FIELD at SIDE s of a", opposite ones go to opposite ones. */
    private static void noughtAndOneOfATurning() {
        for (int a = 0; a < 12; a++) {
            for (int s = 0; s < 5; s++) {
                checks.due("0 to a", town.goes(a, s, 0), a);
                checks.due("1 to the one at s", town.goes(a, s, 1), Sewn.BALL[a][s]);
                checks.due("11 to the other of a", town.goes(a, s, 11), town.other(a));
                for (int field = 0; field < 12; field++) {
                    checks.due("opposite", town.goes(a, s, town.other(field)), town.other(town.goes(a, s, field)));
                }
            }
        }
        for (int field = 0; field < 12; field++) {
            checks.due("(0, 0) leaves all", town.goes(0, 0, field), field);
        }
    }

    /** "there are 60" */
    private static void thereAreSixty() {
        Set<String> turnings = new HashSet<>();
        for (int a = 0; a < 12; a++) {
            for (int s = 0; s < 5; s++) {
                StringBuilder goals = new StringBuilder();
                for (int field = 0; field < 12; field++) {
                    goals.append(town.goes(a, s, field)).append(' ');
                }
                turnings.add(goals.toString());
            }
        }
        checks.due("unlike ones", turnings.size(), 60);
    }

    /** BESIDE, FAR, OTHER and TURNINGS are the ball's: all walls, turned kinds and steps leave them. */
    private static void wallsAreNothingToTheBall() {
        BallTown shut = new BallTown();
        checks.tell(shut, "wheat 0;vine 5");
        checks.tellOfPairs(shut, "wall", Sewn.pairs());
        shut.rotate(7, 3);
        for (int field = 0; field < 12; field++) {
            for (int other = 0; other < 12; other++) {
                checks.due("side", shut.side(field, other), Sewn.sideOf(field, other));
                checks.due("far", shut.far(field, other), town.far(field, other));
            }
            for (int side = 0; side < 5; side++) {
                checks.due("beside", shut.beside(field, side), Sewn.BALL[field][side]);
            }
            checks.due("other", shut.other(field), town.other(field));
            checks.due("goes", shut.goes(9, 4, field), town.goes(9, 4, field));
        }
    }
}

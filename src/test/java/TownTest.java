/** Promises 1 and 11 to 17: a new object, fields, turns of the kinds, steps, what is kept. */
public final class TownTest {
    private static final int UNKNOWN = -2, OUTSIDE = -3, NOT = -4, FULL = -5;
    private static final Checks checks = new Checks();

    public static void main(String[] args) {
        fresh();
        twoObjects();
        field();
        taxes();
        as();
        rotate();
        step();
        stepRefused();
        stepFull();
        walker();
        keepAndBack();
        checks.end("TownTest");
    }

    private static void fresh() {
        checks.due("NONE", BallTown.NONE, -1);
        checks.due("UNKNOWN", BallTown.UNKNOWN, -2);
        checks.due("OUTSIDE", BallTown.OUTSIDE, -3);
        checks.due("NOT", BallTown.NOT, -4);
        checks.due("FULL", BallTown.FULL, -5);
        BallTown town = new BallTown();
        int[] counts = {12, 0, 0, 0, 0, 0, 1, 0};
        for (int what = 0; what < counts.length; what++) {
            checks.due("new count(" + what + ")", town.count(what), counts[what]);
        }
        for (int field = 0; field < 12; field++) {
            checks.due("new field(" + field + ", 0)", town.field(field, 0), 0);
            checks.due("new field(" + field + ", 1)", town.field(field, 1), 0);
        }
        for (int what = 0; what < 3; what++) {
            checks.due("new walker(" + what + ")", town.walker(what), 0);
        }
        checks.due("new back(0)", town.back(0), NOT);
        checks.due("new back(1)", town.back(1), NOT);
        checks.due("new fault()", town.fault(), 0);
    }

    private static void twoObjects() {
        BallTown one = Checks.townOf("wheat 0;wall 0 1;stand 2 2");
        BallTown other = new BallTown();
        checks.due("other has no wheat", other.count(1), 0);
        checks.due("other has no wall", other.count(4), 0);
        checks.due("other's walker", other.walker(0), 0);
        checks.due("one has", one.count(1) + one.count(4), 2);
    }

    private static void field() {
        BallTown town = Checks.townOf("fallow 0;wheat 1;vine 2;well 3;wall 0 1;wall 0 4;wall 2 6");
        int[] kinds = {0, 1, 2, 3, 0};
        for (int field = 0; field < kinds.length; field++) {
            checks.due("kind of " + field, town.field(field, 0), kinds[field]);
        }
        checks.due("walls of 0", town.field(0, 1), 1 | 8);
        checks.due("walls of 1", town.field(1, 1), 1);
        checks.due("walls of 4", town.field(4, 1), 1);
        checks.due("walls of 2", town.field(2, 1), 4);
        checks.due("walls of 6", town.field(6, 1), 16);
        checks.due("walls of 11", town.field(11, 1), 0);
        checks.due("open to 0", town.field(0, 3), 1 << 2 | 1 << 3 | 1 << 5);
        checks.due("open to 1", town.field(1, 3), 1 << 5 | 1 << 10 | 1 << 6 | 1 << 2);
        checks.due("open to 11", town.field(11, 3), 31 << 6);
        fieldRefused(town);
        BallTown shut = Checks.townOf("wall 11 6;wall 11 7;wall 11 8;wall 11 9;wall 11 10");
        checks.due("all walls of 11", shut.field(11, 1), 31);
        checks.due("none open to 11", shut.field(11, 3), 0);
    }

    private static void fieldRefused(BallTown town) {
        for (int bad : Checks.noFields()) {
            checks.due("field(" + bad + ", 0)", town.field(bad, 0), UNKNOWN);
            checks.due("field(" + bad + ", 9)", town.field(bad, 9), UNKNOWN);
        }
        checks.due("field(0, -1)", town.field(0, -1), OUTSIDE);
        checks.due("field(0, 4)", town.field(0, 4), OUTSIDE);
        checks.due("field(11, most)", town.field(11, Integer.MAX_VALUE), OUTSIDE);
    }

    private static void taxes() {
        BallTown town = new BallTown();
        checks.tell(town, "wheat 0;well 1;well 2;well 3;well 4;well 5;well 11");
        checks.due("wheat by 5 wells", town.field(0, 2), 7);
        checks.due("well", town.field(1, 2), 1);
        checks.due("fallow by wells", town.field(6, 2), 0);
        checks.due("tax of all", town.count(5), 13);
        checks.tell(town, "wall 0 1;wall 5 0");
        checks.due("wheat by 3 open wells", town.field(0, 2), 5);
        checks.tell(town, "town;vine 0;vine 6");
        checks.due("vine alone", town.field(0, 2), 3);
        checks.tell(town, "wheat 1");
        checks.due("vine by 1 wheat", town.field(0, 2), 2);
        checks.due("wheat by vines", town.field(1, 2), 2);
        checks.tell(town, "wheat 2;wheat 3");
        checks.due("vine by 3 wheat", town.field(0, 2), 0);
        checks.tell(town, "wheat 4;wheat 5");
        checks.due("vine by 5 wheat", town.field(0, 2), 0);
        checks.due("vine by 2 wheat", town.field(6, 2), 1);
        checks.tell(town, "wall 0 1;wall 0 2;wall 0 3;wall 0 4");
        checks.due("vine by 1 open wheat", town.field(0, 2), 2);
        checks.tell(town, "well 5");
        checks.due("vine by a well", town.field(0, 2), 3);
        checks.due("wheat by a well", town.field(4, 2), 3);
        checks.due("wheat by a well, too", town.field(1, 2), 3);
        town.rotate(0, 0);
        checks.due("tax unturned", town.field(4, 2), 3);
    }

    private static void as() {
        BallTown town = Checks.townOf("fallow 0;wheat 1;vine 2;well 3");
        int[][] want = {{0, NOT, NOT, NOT, NOT}, {2, 2, 2, NOT, NOT}, {2, 2, NOT, 2, NOT}, {1, NOT, NOT, NOT, 1}};
        for (int field = 0; field < want.length; field++) {
            for (int kind = 0; kind < 5; kind++) {
                checks.due("as(" + field + ", " + kind + ")", town.as(field, kind), want[field][kind]);
            }
        }
        checks.due("as(0, -1)", town.as(0, -1), OUTSIDE);
        checks.due("as(0, 5)", town.as(0, 5), OUTSIDE);
        checks.due("as(0, least)", town.as(0, Integer.MIN_VALUE), OUTSIDE);
        for (int bad : Checks.noFields()) {
            checks.due("as(" + bad + ", 0)", town.as(bad, 0), UNKNOWN);
            checks.due("as(" + bad + ", 5)", town.as(bad, 5), UNKNOWN);
        }
    }

    private static void rotate() {
        BallTown town = Checks.townOf("wheat 0;vine 1;well 7;wall 0 2;stand 3 3");
        checks.due("turning by (0, 0)", town.rotate(0, 0), 0);
        checks.due("by (0, 1)", town.rotate(0, 1), 4);
        checks.due("wheat stays", town.field(0, 0), 1);
        checks.due("vine at 2", town.field(2, 0), 2);
        checks.due("none at 1", town.field(1, 0), 0);
        checks.due("well at 8", town.field(8, 0), 3);
        checks.due("none at 7", town.field(7, 0), 0);
        checks.due("walls stay", town.field(0, 1), 2);
        checks.due("walker stays", town.walker(0), 3);
        checks.due("his side stays", town.walker(1), 3);
        checks.due("by (11, 3)", town.rotate(11, 3), 6);
        checks.due("wheat at 11", town.field(11, 0), 1);
        checks.due("vine at", town.field(town.goes(11, 3, 2), 0), 2);
        checks.due("well at", town.field(town.goes(11, 3, 8), 0), 3);
        for (int bad : Checks.noFields()) {
            checks.due("rotate(" + bad + ", 0)", town.rotate(bad, 0), UNKNOWN);
        }
        for (int bad : Checks.noSides()) {
            checks.due("rotate(0, " + bad + ")", town.rotate(0, bad), UNKNOWN);
        }
        checks.due("nothing changed", town.field(11, 0), 1);
        checks.due("one kind: none other", new BallTown().rotate(7, 2), 0);
    }

    private static void step() {
        for (int field = 0; field < 12; field++) {
            for (int side = 0; side < 5; side++) {
                for (int turn = 0; turn < 5; turn++) {
                    BallTown town = Checks.townOf("stand " + field + " " + side);
                    int next = town.beside(field, (side + turn) % 5);
                    checks.due("step(" + turn + ")", town.step(turn), next);
                    checks.due("walker(0)", town.walker(0), next);
                    checks.due("walker(1)", town.walker(1), town.side(next, field));
                    checks.due("walker(2)", town.walker(2), 1);
                }
            }
        }
    }

    private static void stepRefused() {
        BallTown town = Checks.townOf("wall 0 1;stand 0 4");
        checks.due("a wall", town.step(1), NOT);
        for (int bad : Checks.noSides()) {
            checks.due("step(" + bad + ")", town.step(bad), OUTSIDE);
        }
        checks.due("he stays", town.walker(0), 0);
        checks.due("by his side", town.walker(1), 4);
        checks.due("no steps", town.walker(2), 0);
        checks.due("another way", town.step(2), 2);
        checks.due("further", town.step(2), 6);
        checks.due("steps", town.walker(2), 2);
        BallTown other = Checks.townOf("wall 0 1;stand 1 0");
        checks.due("the same wall from 1", other.step(0), NOT);
    }

    /** More calls than an object is promised for: the bound of the steps is reached by no fewer. */
    private static void stepFull() {
        BallTown town = Checks.townOf("wall 0 2");
        for (int steps = 1; steps <= 9999; steps++) {
            checks.due("step(0)", town.step(0), steps % 2);
        }
        checks.due("9999 steps", town.walker(2), 9999);
        checks.due("one more", town.step(0), FULL);
        checks.due("he stays", town.walker(0), 1);
        checks.due("steps stay", town.walker(2), 9999);
        checks.due("outside ahead of full", town.step(5), OUTSIDE);
        checks.tell(town, "wall 1 0");
        checks.due("no steps then", town.walker(2), 0);
    }

    private static void walker() {
        BallTown town = Checks.townOf("stand 9 4");
        checks.due("walker(0)", town.walker(0), 9);
        checks.due("walker(1)", town.walker(1), 4);
        checks.due("walker(2)", town.walker(2), 0);
        checks.due("walker(-1)", town.walker(-1), OUTSIDE);
        checks.due("walker(3)", town.walker(3), OUTSIDE);
        checks.due("walker(least)", town.walker(Integer.MIN_VALUE), OUTSIDE);
    }

    private static void keepAndBack() {
        BallTown town = Checks.townOf("wheat 0;well 1");
        checks.due("back(0) ahead of keep", town.back(0), NOT);
        checks.due("step", town.step(1), 2);
        checks.due("keep(0)", town.keep(0), 1);
        town.step(2);
        town.rotate(4, 2);
        checks.due("keep(1)", town.keep(1), 2);
        int place = town.walker(0);
        int entry = town.walker(1);
        town.step(3);
        checks.due("back(0)", town.back(0), 1);
        checks.due("wheat is back", town.field(0, 0), 1);
        checks.due("well is back", town.field(1, 0), 3);
        checks.due("walker is back", town.walker(0), 2);
        checks.due("his side is back", town.walker(1), 0);
        checks.due("his steps are back", town.walker(2), 1);
        town.rotate(7, 0);
        checks.due("back(1)", town.back(1), 2);
        checks.due("turned wheat", town.field(4, 0), 1);
        checks.due("turned well", town.field(8, 0), 3);
        checks.due("place", town.walker(0), place);
        checks.due("entry", town.walker(1), entry);
        checks.due("back(0) again", town.back(0), 1);
        checks.due("keep(1) over", town.keep(1), 1);
        checks.due("back(1) then", town.back(1), 1);
        checks.due("wheat by 1", town.field(0, 0), 1);
        keepRefused(town);
    }

    private static void keepRefused(BallTown town) {
        for (int bad : new int[] {-1, 2, 3, Integer.MIN_VALUE, Integer.MAX_VALUE}) {
            checks.due("keep(" + bad + ")", town.keep(bad), UNKNOWN);
            checks.due("back(" + bad + ")", town.back(bad), UNKNOWN);
            checks.due("new back(" + bad + ")", new BallTown().back(bad), UNKNOWN);
        }
        BallTown one = new BallTown();
        one.keep(1);
        checks.due("only 1 is kept", one.back(0), NOT);
        checks.due("1 is", one.back(1), 0);
    }
}

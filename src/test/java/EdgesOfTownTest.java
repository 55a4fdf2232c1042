import java.util.List;

/** The edges of promises 1 and 11 to 17. Each test is named by the document's words that it holds the class to. */
public final class EdgesOfTownTest {
    private static final int UNKNOWN = -2, OUTSIDE = -3, NOT = -4, FULL = -5;
    private static final String[] KINDS = {"fallow", "wheat", "vine", "well"};
    private static final Checks checks = new Checks();

    public static void main(String[] args) {
        allFallowNoWalls();
        whatOfAField();
        wallsFromNoneToAll();
        taxOfFallowAndWells();
        taxOfWheat();
        taxOfVines();
        kindsOverOneAnother();
        byItsOwnKind();
        outsideIsAheadOfNot();
        turningsOfKinds();
        howManyAreOfAnotherKind();
        wallsAndWalkerStay();
        turnsOfAStep();
        turnNoughtIsBack();
        notThroughAWall();
        mostSteps();
        whatOfTheWalker();
        keptIsNoughtOrOne();
        whatIsKept();
        keptAnew();
        backLeavesWhatWasKept();
        checks.end("EdgesOfTownTest");
    }

    /** "All FALLOW, no WALLS." .. "(FIELD 0, SIDE 0 at first)" */
    private static void allFallowNoWalls() {
        BallTown town = new BallTown();
        for (int field = 0; field < 12; field++) {
            checks.due("kind of " + field, town.field(field, 0), 0);
            checks.due("walls of " + field, town.field(field, 1), 0);
            checks.due("tax of " + field, town.field(field, 2), 0);
            checks.due("all beside are open to " + field, Integer.bitCount(town.field(field, 3)), 5);
        }
        for (int what = 0; what < 3; what++) {
            checks.due("walker(" + what + ")", town.walker(what), 0);
        }
        checks.due("no text", town.count(7), 0);
        checks.due("nothing kept at 0", town.back(0), NOT);
        checks.due("nothing kept at 1", town.back(1), NOT);
    }

    /** "KIND (what 0), SIDES with WALLS, by bits (1), TAX (2), FIELDS that are OPEN to it, by bits (3)" */
    private static void whatOfAField() {
        BallTown town = Checks.townOf("well 11;vine 0;wall 11 6;wall 0 1");
        int[] whats = {Integer.MIN_VALUE, -1, 0, 1, 2, 3, 4, Integer.MAX_VALUE};
        int[] first = {OUTSIDE, OUTSIDE, 2, 1, 3, 1 << 2 | 1 << 3 | 1 << 4 | 1 << 5, OUTSIDE, OUTSIDE};
        int[] last = {OUTSIDE, OUTSIDE, 3, 1 << 4, 1, 1 << 7 | 1 << 8 | 1 << 9 | 1 << 10, OUTSIDE, OUTSIDE};
        for (int i = 0; i < whats.length; i++) {
            checks.due("field(-1, " + whats[i] + ")", town.field(-1, whats[i]), UNKNOWN);
            checks.due("field(0, " + whats[i] + ")", town.field(0, whats[i]), first[i]);
            checks.due("field(11, " + whats[i] + ")", town.field(11, whats[i]), last[i]);
            checks.due("field(12, " + whats[i] + ")", town.field(12, whats[i]), UNKNOWN);
        }
    }

    /** "WALLS are between some that are BESIDE (none at first); OPEN are two that are BESIDE without one." */
    private static void wallsFromNoneToAll() {
        BallTown town = new BallTown();
        int[] closed = new int[12];
        int walls = 0;
        for (int[] pair : Sewn.pairs()) {
            checks.tellOfPairs(town, "wall", List.of(pair));
            walls++;
            closed[pair[0]] |= 1 << Sewn.sideOf(pair[0], pair[1]);
            closed[pair[1]] |= 1 << Sewn.sideOf(pair[1], pair[0]);
            checks.due("walls", town.count(4), walls);
            for (int field : pair) {
                checks.due("closed sides of " + field, town.field(field, 1), closed[field]);
                checks.due("open to " + field, town.field(field, 3), openTo(field, closed[field]));
            }
        }
        checks.due("all walls", town.count(4), 30);
        for (int field = 0; field < 12; field++) {
            checks.due("all closed of " + field, town.field(field, 1), 31);
            checks.due("none open to " + field, town.field(field, 3), 0);
        }
        checks.tellOfPairs(town, "gate", Sewn.pairs());
        checks.due("no walls again", town.count(4), 0);
        checks.due("none closed again", town.field(5, 1), 0);
    }

    private static int openTo(int field, int closed) {
        int open = 0;
        for (int side = 0; side < 5; side++) {
            open |= (closed >> side & 1) == 0 ? 1 << Sewn.BALL[field][side] : 0;
        }
        return open;
    }

    /** Five of a kind around a field of a kind: the first so many, and walls to the first so many of these. */
    private static int taxAmong(int field, String kind, String around, int many, int walled) {
        BallTown town = new BallTown();
        checks.tell(town, kind + " " + field);
        for (int side = 0; side < many; side++) {
            checks.tell(town, around + " " + Sewn.BALL[field][side]);
        }
        for (int side = 0; side < walled; side++) {
            checks.tell(town, "wall " + Sewn.BALL[field][side] + " " + field);
        }
        checks.due("as a field", town.as(field, 0), town.field(field, 2));
        return town.field(field, 2);
    }

    /** "of FALLOW 0" .. "of a WELL 1", whatever is OPEN to them. */
    private static void taxOfFallowAndWells() {
        for (String around : KINDS) {
            for (int many = 0; many <= 5; many++) {
                checks.due("fallow among " + around, taxAmong(7, "fallow", around, many, 0), 0);
                checks.due("well among " + around, taxAmong(7, "well", around, many, 0), 1);
            }
        }
    }

    /** "of WHEAT 2, and 1 for each WELL that is OPEN to it" */
    private static void taxOfWheat() {
        for (int many = 0; many <= 5; many++) {
            for (int walled = 0; walled <= many; walled++) {
                checks.due("wheat among wells", taxAmong(3, "wheat", "well", many, walled), 2 + many - walled);
            }
            checks.due("wheat among wheat", taxAmong(3, "wheat", "wheat", many, 0), 2);
            checks.due("wheat among vines", taxAmong(3, "wheat", "vine", many, 0), 2);
        }
        checks.due("a well that is not beside", Checks.townOf("wheat 0;well 6;well 11").field(0, 2), 2);
    }

    /** "of a VINE 3, less 1 for each WHEAT that is OPEN to it, 0 at least" */
    private static void taxOfVines() {
        int[] want = {3, 2, 1, 0, 0, 0};
        for (int many = 0; many <= 5; many++) {
            for (int walled = 0; walled <= many; walled++) {
                checks.due("vine among wheat", taxAmong(10, "vine", "wheat", many, walled), want[many - walled]);
            }
            checks.due("vine among wells", taxAmong(10, "vine", "well", many, 0), 3);
            checks.due("vine among vines", taxAmong(10, "vine", "vine", many, 0), 3);
        }
        checks.due("wheat that is not beside", Checks.townOf("vine 0;wheat 6;wheat 11").field(0, 2), 3);
        BallTown town = Checks.townOf("vine 0;wheat 1;wheat 2;wheat 3;wheat 4;wheat 5");
        checks.due("the least is none the less in the tax of all", town.count(5), 5 * 2);
    }

    /** "KINDS are over one another: FIELD (0); CROP (1) .. FALLOW ones are FIELDS alone." */
    private static void kindsOverOneAnother() {
        BallTown town = Checks.townOf("fallow 0;wheat 1;vine 2;well 3");
        int[] own = {0, 2, 2, 1};
        String[] such = {"0", "012", "013", "04"};
        for (int field = 0; field < 4; field++) {
            checks.due("as(" + field + ", -1)", town.as(field, -1), OUTSIDE);
            for (int kind = 0; kind <= 4; kind++) {
                boolean is = such[field].indexOf('0' + kind) >= 0;
                checks.due("as(" + field + ", " + kind + ")", town.as(field, kind), is ? own[field] : NOT);
            }
            checks.due("as(" + field + ", 5)", town.as(field, 5), OUTSIDE);
        }
        for (int kind = -1; kind <= 5; kind++) {
            checks.due("as(-1, " + kind + ")", town.as(-1, kind), UNKNOWN);
            checks.due("as(12, " + kind + ")", town.as(12, kind), UNKNOWN);
        }
        checks.due("as(11, 0)", town.as(11, 0), 0);
    }

    /** "what is told is by its own KIND, whatever it is taken as", and by that which it is TURNED to. */
    private static void byItsOwnKind() {
        BallTown town = Checks.townOf("wheat 0;well 1;well 2;vine 6;wheat 7");
        checks.due("wheat as a field", town.as(0, 0), 4);
        checks.due("wheat as a crop", town.as(0, 1), 4);
        checks.due("wheat as wheat", town.as(0, 2), 4);
        checks.due("vine as a field", town.as(6, 0), 2);
        checks.due("vine as a crop", town.as(6, 1), 2);
        checks.due("vine as a vine", town.as(6, 3), 2);
        town.rotate(11, 0);
        checks.due("turned wheat", town.as(11, 2), 4);
        checks.due("turned away", town.as(0, 2), NOT);
        checks.due("fallow as a field", town.as(0, 0), 0);
    }

    /** "the first of these that fits": UNKNOWN, OUTSIDE, NOT. */
    private static void outsideIsAheadOfNot() {
        BallTown town = new BallTown();
        checks.due("none such, as 1", town.as(0, 1), NOT);
        checks.due("none such, as 4", town.as(0, 4), NOT);
        checks.due("no such kind above", town.as(0, 5), OUTSIDE);
        checks.due("no such kind below", town.as(0, -1), OUTSIDE);
        checks.due("no such field", town.as(12, 1), UNKNOWN);
        checks.due("no such field, nor kind", town.as(12, 5), UNKNOWN);
        BallTown shut = new BallTown();
        checks.tellOfPairs(shut, "wall", Sewn.pairs());
        for (int turn = 0; turn < 5; turn++) {
            checks.due("a wall, step(" + turn + ")", shut.step(turn), NOT);
        }
        checks.due("no such turn above", shut.step(5), OUTSIDE);
        checks.due("no such turn below", shut.step(-1), OUTSIDE);
    }

    private static String kindsByFields(int shift) {
        StringBuilder text = new StringBuilder();
        for (int field = 0; field < 12; field++) {
            text.append(field == 0 ? "" : ";").append(KINDS[(field * field + shift) % 4]).append(field);
        }
        return text.toString();
    }

    /** "that of each FIELD is at the one then to which it goes" */
    private static void turningsOfKinds() {
        for (int a = 0; a < 12; a++) {
            for (int s = 0; s < 5; s++) {
                for (int field = 0; field < 12; field++) {
                    BallTown town = Checks.townOf("vine " + field);
                    boolean stays = town.goes(a, s, field) == field;
                    checks.due("rotate(" + a + ", " + s + ")", town.rotate(a, s), stays ? 0 : 2);
                    checks.due("one vine", town.count(2), 1);
                    checks.due("there", town.field(town.goes(a, s, field), 0), 2);
                }
            }
        }
        int[][] bad = {{-1, 0}, {12, 0}, {0, -1}, {0, 5}, {11, 5}, {12, 4}, {-1, -1}, {12, 5}};
        for (int[] turning : bad) {
            BallTown town = Checks.townOf("vine 0");
            checks.due("rotate(" + turning[0] + ", " + turning[1] + ")", town.rotate(turning[0], turning[1]), UNKNOWN);
            checks.due("the vine stays", town.field(0, 0), 2);
        }
    }

    /** "how many FIELDS are of another KIND then": from 0 to 12. */
    private static void howManyAreOfAnotherKind() {
        for (int shift = 0; shift < 4; shift++) {
            BallTown town = Checks.townOf(kindsByFields(shift));
            for (int turning = 0; turning < 60; turning++) {
                int[] ahead = kindsOf(town);
                int told = town.rotate(turning / 5, turning % 5);
                int[] then = kindsOf(town);
                int other = 0;
                for (int field = 0; field < 12; field++) {
                    other += ahead[field] != then[field] ? 1 : 0;
                }
                checks.due("of another kind", told, other);
            }
        }
        checks.due("all of one kind", new BallTown().rotate(11, 4), 0);
        checks.due("by (0, 0)", Checks.townOf(kindsByFields(0)).rotate(0, 0), 0);
        BallTown halves = Checks.townOf("wheat 0;wheat 1;wheat 2;wheat 3;wheat 4;wheat 5");
        checks.due("all twelve are of another kind", halves.rotate(11, 0), 12);
    }

    private static int[] kindsOf(BallTown town) {
        int[] kinds = new int[12];
        for (int field = 0; field < 12; field++) {
            kinds[field] = town.field(field, 0);
        }
        return kinds;
    }

    /** "(WALLS, the WALKER stay)" */
    private static void wallsAndWalkerStay() {
        BallTown town = Checks.townOf("wheat 0;wall 0 1;wall 7 11;stand 6 3");
        town.step(2);
        int[] stood = {town.walker(0), town.walker(1), town.walker(2)};
        for (int turning = 0; turning < 60; turning++) {
            town.rotate(turning / 5, turning % 5);
            checks.due("walls", town.count(4), 2);
            checks.due("of 0", town.field(0, 1), 1);
            checks.due("of 11", town.field(11, 1), 1 << Sewn.sideOf(11, 7));
            for (int what = 0; what < 3; what++) {
                checks.due("walker(" + what + ")", town.walker(what), stood[what]);
            }
        }
    }

    /** "A STEP by a TURN t (0 .. 4)", from SIDE 4 ON to 0. */
    private static void turnsOfAStep() {
        int[] turns = {Integer.MIN_VALUE, -1, 0, 4, 5, Integer.MAX_VALUE};
        int[] want = {OUTSIDE, OUTSIDE, 5, 4, OUTSIDE, OUTSIDE};
        for (int i = 0; i < turns.length; i++) {
            BallTown town = Checks.townOf("stand 0 4");
            checks.due("step(" + turns[i] + ")", town.step(turns[i]), want[i]);
            checks.due("his steps", town.walker(2), want[i] == OUTSIDE ? 0 : 1);
            checks.due("his field", town.walker(0), want[i] == OUTSIDE ? 0 : want[i]);
        }
        for (int turn = 1; turn < 5; turn++) {
            checks.due("on from 4 by " + turn, Checks.townOf("stand 0 4").step(turn), Sewn.BALL[0][turn - 1]);
        }
    }

    /** "(0: back by it)" */
    private static void turnNoughtIsBack() {
        for (int field = 0; field < 12; field++) {
            for (int side = 0; side < 5; side++) {
                BallTown town = Checks.townOf("stand " + field + " " + side);
                checks.due("out", town.step(0), Sewn.BALL[field][side]);
                checks.due("by its side", town.walker(1), Sewn.sideOf(Sewn.BALL[field][side], field));
                checks.due("back", town.step(0), field);
                checks.due("by his side", town.walker(1), side);
                checks.due("two steps", town.walker(2), 2);
            }
        }
    }

    /** "not through a WALL": only the one at the side by which he goes out hinders him. */
    private static void notThroughAWall() {
        for (int field = 0; field < 12; field++) {
            for (int turn = 0; turn < 5; turn++) {
                for (int walled = 0; walled < 5; walled++) {
                    BallTown town = Checks.townOf("stand " + field + " 3;wall " + Sewn.BALL[field][walled] + " " + field);
                    boolean hinders = (3 + turn) % 5 == walled;
                    checks.due("step(" + turn + ")", town.step(turn), hinders ? NOT : Sewn.BALL[field][(3 + turn) % 5]);
                    checks.due("his steps", town.walker(2), hinders ? 0 : 1);
                    if (hinders) {
                        checks.due("he stays", town.walker(0) * 10 + town.walker(1), field * 10 + 3);
                    }
                }
            }
        }
    }

    /** "FULL: above 9999 STEPS", behind NOT; no object is promised for so many calls, and this one answers still. */
    private static void mostSteps() {
        BallTown town = Checks.townOf("wall 1 2");
        for (int steps = 0; steps < 9998; steps++) {
            town.step(0);
        }
        checks.due("the 9999th", town.step(0), 1);
        checks.due("so many", town.walker(2), 9999);
        checks.due("kept so", town.keep(0), 9999);
        checks.due("one above", town.step(0), FULL);
        checks.due("a wall is ahead of that", town.step(4), NOT);
        checks.due("and no such turn", town.step(5), OUTSIDE);
        checks.due("nothing changed", town.walker(0) * 10000 + town.walker(2), 19999);
        checks.due("back to so many", town.back(0), 9999);
        checks.due("FULL again", town.step(0), FULL);
    }

    /** "FIELD (what 0), the SIDE by which he came in (1), STEPS (2)" */
    private static void whatOfTheWalker() {
        BallTown town = Checks.townOf("stand 11 4");
        town.step(3);
        int[] whats = {Integer.MIN_VALUE, -1, 0, 1, 2, 3, Integer.MAX_VALUE};
        int[] want = {OUTSIDE, OUTSIDE, 8, 2, 1, OUTSIDE, OUTSIDE};
        for (int i = 0; i < whats.length; i++) {
            checks.due("walker(" + whats[i] + ")", town.walker(whats[i]), want[i]);
        }
    }

    /** "(k 0, 1)" .. "UNKNOWN: no such k." .. "NOT: nothing was kept since the last text." */
    private static void keptIsNoughtOrOne() {
        int[] ks = {Integer.MIN_VALUE, -1, 0, 1, 2, Integer.MAX_VALUE};
        for (int k : ks) {
            boolean is = k == 0 || k == 1;
            BallTown town = new BallTown();
            checks.due("nothing kept, back(" + k + ")", town.back(k), is ? NOT : UNKNOWN);
            checks.due("keep(" + k + ")", town.keep(k), is ? 0 : UNKNOWN);
            checks.due("back(" + k + ")", town.back(k), is ? 0 : UNKNOWN);
            for (int other = 0; other < 2; other++) {
                checks.due("kept at " + k + " alone, back(" + other + ")", town.back(other), other == k ? 0 : NOT);
            }
        }
        BallTown town = new BallTown();
        checks.due("keep", town.keep(0), 0);
        checks.tell(town, "gate 0 1");
        checks.due("nothing since the last text", town.back(0), NOT);
    }

    /** "KINDS, the WALKER, STEPS are kept (..): STEPS." .. "They are as they were kept: STEPS." */
    private static void whatIsKept() {
        for (int k = 0; k < 2; k++) {
            BallTown town = Checks.townOf(kindsByFields(1));
            town.rotate(5, 3);
            checks.due("out", town.step(3) >= 0 ? 1 : 0, 1);
            checks.due("further", town.step(1) >= 0 ? 1 : 0, 1);
            int[] kinds = kindsOf(town);
            int place = town.walker(0);
            int entry = town.walker(1);
            checks.due("keep(" + k + ")", town.keep(k), 2);
            checks.due("kinds are as they were", town.rotate(0, 0), 0);
            checks.due("the walker, too", town.walker(0) * 10 + town.walker(1), place * 10 + entry);
            for (int turning = 1; turning < 60; turning++) {
                town.rotate(turning / 5, turning % 5);
                town.step(turning % 5);
                checks.due("back(" + k + ")", town.back(k), 2);
                checks.dueAll("kinds", kindsOf(town), kinds);
                checks.due("field", town.walker(0), place);
                checks.due("side", town.walker(1), entry);
                checks.due("steps", town.walker(2), 2);
            }
        }
    }

    /** What is kept at a k is what was kept there last; the other k has its own. */
    private static void keptAnew() {
        BallTown town = Checks.townOf("wheat 0");
        for (int steps = 1; steps <= 6; steps++) {
            town.step(2);
            town.rotate(steps, 1);
            checks.due("keep", town.keep(steps % 2), steps);
        }
        int[] kinds = kindsOf(town);
        checks.due("the fifth", town.back(1), 5);
        checks.due("is", town.walker(2), 5);
        checks.due("the sixth", town.back(0), 6);
        checks.dueAll("kinds of the sixth", kindsOf(town), kinds);
    }

    /** Neither back nor what comes behind it changes what is kept. */
    private static void backLeavesWhatWasKept() {
        BallTown town = Checks.townOf("wheat 0;well 11");
        town.keep(0);
        town.step(1);
        town.keep(1);
        for (int again = 0; again < 5; again++) {
            checks.due("back(0)", town.back(0), 0);
            town.rotate(3, 2);
            town.step(2);
            town.step(2);
            checks.due("back(1)", town.back(1), 1);
            checks.due("wheat at 0", town.field(0, 0), 1);
            checks.due("well at 11", town.field(11, 0), 3);
            town.rotate(6, 0);
        }
    }
}

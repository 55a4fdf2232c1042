import java.util.List;
import java.util.function.Supplier;
import java.util.function.ToLongFunction;

/**
 * "Refused, and nothing changes: UNKNOWN (no such FIELD, SIDE), OUTSIDE (another number is not as told),
 * NOT (not now: as told), FULL: the first of these that fits."
 * Each refused call is made in a new town and in three that have lived; the town must be then as its twin.
 */
public final class RefusedTest {
    private static final int UNKNOWN = -2, OUTSIDE = -3, NOT = -4, FULL = -5;
    private static final int[] NO_FIELDS = {-1, 12, Integer.MIN_VALUE, Integer.MAX_VALUE};
    private static final int[] NO_SIDES = {-1, 5, Integer.MIN_VALUE, Integer.MAX_VALUE};
    private static final int[] NO_IMAGES = {-1, 2, Integer.MIN_VALUE, Integer.MAX_VALUE};
    private static final Checks checks = new Checks();

    public static void main(String[] args) {
        everywhere("a new town", BallTown::new);
        everywhere("a town with a text", RefusedTest::withText);
        everywhere("a town with a false text", RefusedTest::withFalseText);
        everywhere("a shut town with a full text", RefusedTest::shutAndFull);
        notNow();
        full();
        foretoldChangesNothing();
        checks.end("RefusedTest");
    }

    /** Told, turned, walked, kept in both places, and then turned and walked again. */
    private static BallTown lived() {
        BallTown town = Checks.townOf("wheat 0;vine 1;well 2;wall 0 3;wall 7 8;stand 4 2");
        town.step(1);
        town.rotate(3, 1);
        town.keep(0);
        town.step(2);
        town.rotate(6, 4);
        town.keep(1);
        town.rotate(2, 2);
        town.step(3);
        return town;
    }

    private static BallTown withText() {
        BallTown town = lived();
        Checks.write(town, "vine 9;gate 7 8;stand 1 1");
        return town;
    }

    private static BallTown withFalseText() {
        BallTown town = lived();
        Checks.write(town, "vine 9;gate 7 8;stand 1 1;");
        return town;
    }

    private static BallTown shutAndFull() {
        BallTown town = Checks.townOf("wheat 5;stand 8 3");
        checks.tellOfPairs(town, "wall", Sewn.pairs());
        town.rotate(3, 3);
        town.keep(1);
        Checks.write(town, "town" + " ".repeat(196));
        return town;
    }

    private static void everywhere(String name, Supplier<BallTown> made) {
        Twins twins = new Twins(checks, name, made);
        for (int bad : new int[] {0, 9, -1, Integer.MIN_VALUE, Integer.MAX_VALUE}) {
            twins.unchanged("write(-1, " + bad + ")", town -> town.write(-1, bad), OUTSIDE);
            twins.unchanged("fixed(0, 0, " + bad + ")", town -> town.fixed(0, 0, bad), OUTSIDE);
            twins.unchanged("unlike(" + bad + ")", town -> town.unlike(bad), OUTSIDE);
        }
        for (int bad : NO_FIELDS) {
            noField(twins, bad);
            noFieldNorNumber(twins, bad);
        }
        for (int bad : NO_SIDES) {
            noSide(twins, bad);
        }
        for (int bad : NO_IMAGES) {
            twins.unchanged("keep(" + bad + ")", town -> town.keep(bad), UNKNOWN);
            twins.unchanged("back(" + bad + ")", town -> town.back(bad), UNKNOWN);
            twins.unchanged("like(" + bad + ")", town -> town.like(bad), UNKNOWN);
            twins.unchanged("odds(0, 0, 0, " + bad + ")", town -> town.odds(0, 0, 0, bad), OUTSIDE);
        }
        otherNumbers(twins);
    }

    private static void noField(Twins twins, int bad) {
        twins.unchanged("beside(" + bad + ", 0)", town -> town.beside(bad, 0), UNKNOWN);
        twins.unchanged("side(" + bad + ", 0)", town -> town.side(bad, 0), UNKNOWN);
        twins.unchanged("side(0, " + bad + ")", town -> town.side(0, bad), UNKNOWN);
        twins.unchanged("far(" + bad + ", 0)", town -> town.far(bad, 0), UNKNOWN);
        twins.unchanged("far(0, " + bad + ")", town -> town.far(0, bad), UNKNOWN);
        twins.unchanged("other(" + bad + ")", town -> town.other(bad), UNKNOWN);
        twins.unchanged("goes(" + bad + ", 0, 0)", town -> town.goes(bad, 0, 0), UNKNOWN);
        twins.unchanged("goes(0, 0, " + bad + ")", town -> town.goes(0, 0, bad), UNKNOWN);
        twins.unchanged("field(" + bad + ", 0)", town -> town.field(bad, 0), UNKNOWN);
        twins.unchanged("as(" + bad + ", 0)", town -> town.as(bad, 0), UNKNOWN);
        twins.unchanged("rotate(" + bad + ", 1)", town -> town.rotate(bad, 1), UNKNOWN);
        twins.unchanged("fixed(" + bad + ", 0, 1)", town -> town.fixed(bad, 0, 1), UNKNOWN);
        twins.unchanged("inside(" + bad + ")", town -> town.inside(bad), UNKNOWN);
        twins.unchanged("walks(" + bad + ", 0, 3)", town -> town.walks(bad, 0, 3), UNKNOWN);
        twins.unchanged("walks(0, " + bad + ", 3)", town -> town.walks(0, bad, 3), UNKNOWN);
        twins.unchanged("odds(" + bad + ", 0, 3, 0)", town -> town.odds(bad, 0, 3, 0), UNKNOWN);
        twins.unchanged("odds(0, " + bad + ", 3, 0)", town -> town.odds(0, bad, 3, 0), UNKNOWN);
    }

    /** "the first of these that fits": UNKNOWN is ahead of OUTSIDE. */
    private static void noFieldNorNumber(Twins twins, int bad) {
        twins.unchanged("field(" + bad + ", 4)", town -> town.field(bad, 4), UNKNOWN);
        twins.unchanged("as(" + bad + ", 5)", town -> town.as(bad, 5), UNKNOWN);
        twins.unchanged("fixed(" + bad + ", 0, 9)", town -> town.fixed(bad, 0, 9), UNKNOWN);
        twins.unchanged("walks(" + bad + ", 0, 21)", town -> town.walks(bad, 0, 21), UNKNOWN);
        twins.unchanged("walks(0, " + bad + ", -1)", town -> town.walks(0, bad, -1), UNKNOWN);
        twins.unchanged("odds(" + bad + ", 0, 9, 2)", town -> town.odds(bad, 0, 9, 2), UNKNOWN);
        twins.unchanged("odds(0, " + bad + ", -1, -1)", town -> town.odds(0, bad, -1, -1), UNKNOWN);
        twins.unchanged("goes(" + bad + ", " + bad + ", " + bad + ")", town -> town.goes(bad, bad, bad), UNKNOWN);
    }

    private static void noSide(Twins twins, int bad) {
        twins.unchanged("beside(0, " + bad + ")", town -> town.beside(0, bad), UNKNOWN);
        twins.unchanged("goes(0, " + bad + ", 0)", town -> town.goes(0, bad, 0), UNKNOWN);
        twins.unchanged("rotate(0, " + bad + ")", town -> town.rotate(0, bad), UNKNOWN);
        twins.unchanged("fixed(0, " + bad + ", 1)", town -> town.fixed(0, bad, 1), UNKNOWN);
        twins.unchanged("fixed(0, " + bad + ", 0)", town -> town.fixed(0, bad, 0), UNKNOWN);
        twins.unchanged("step(" + bad + ")", town -> town.step(bad), OUTSIDE);
        twins.unchanged("home(" + bad + ")", town -> town.home(bad), OUTSIDE);
        twins.unchanged("as(0, " + bad + ")", town -> town.as(0, bad), OUTSIDE);
    }

    private static void otherNumbers(Twins twins) {
        for (int bad : new int[] {-1, 4, Integer.MIN_VALUE, Integer.MAX_VALUE}) {
            twins.unchanged("field(0, " + bad + ")", town -> town.field(0, bad), OUTSIDE);
        }
        for (int bad : new int[] {-1, 3, Integer.MIN_VALUE, Integer.MAX_VALUE}) {
            twins.unchanged("walker(" + bad + ")", town -> town.walker(bad), OUTSIDE);
            twins.unchanged("wardens(" + bad + ")", town -> town.wardens(bad), OUTSIDE);
        }
        for (int bad : new int[] {-2, 12, Integer.MIN_VALUE, Integer.MAX_VALUE}) {
            twins.unchanged("rounds(" + bad + ")", town -> town.rounds(bad), OUTSIDE);
        }
        for (int bad : new int[] {-1, 21, Integer.MIN_VALUE, Integer.MAX_VALUE}) {
            twins.unchanged("walks(0, 0, " + bad + ")", town -> town.walks(0, 0, bad), OUTSIDE);
        }
        for (int bad : new int[] {-1, 9, Integer.MIN_VALUE, Integer.MAX_VALUE}) {
            twins.unchanged("odds(0, 0, " + bad + ", 0)", town -> town.odds(0, 0, bad, 0), OUTSIDE);
        }
        for (int bad : new int[] {-1, 8, Integer.MIN_VALUE, Integer.MAX_VALUE}) {
            twins.unchanged("count(" + bad + ")", town -> town.count(bad), OUTSIDE);
        }
    }

    /** "NOT (not now: as told)" of each call that answers so. */
    private static void notNow() {
        Twins fresh = new Twins(checks, "a new town", BallTown::new);
        fresh.unchanged("town()", BallTown::town, NOT);
        fresh.unchanged("back(0)", town -> town.back(0), NOT);
        fresh.unchanged("back(1)", town -> town.back(1), NOT);
        fresh.unchanged("like(0)", town -> town.like(0), NOT);
        fresh.unchanged("like(1)", town -> town.like(1), NOT);
        fresh.unchanged("as(11, 1)", town -> town.as(11, 1), NOT);
        fresh.unchanged("as(11, 4)", town -> town.as(11, 4), NOT);
        new Twins(checks, "a false text", RefusedTest::withFalseText).unchanged("town()", BallTown::town, NOT);
        Twins shut = new Twins(checks, "a shut town", RefusedTest::shutAndFull);
        for (int turn = 0; turn < 5; turn++) {
            int t = turn;
            shut.unchanged("step(" + turn + ")", town -> town.step(t), NOT);
        }
        shut.unchanged("back(0)", town -> town.back(0), NOT);
        shut.unchanged("like(0)", town -> town.like(0), NOT);
    }

    private static void full() {
        Twins twins = new Twins(checks, "a full text", RefusedTest::shutAndFull);
        for (int n = 1; n <= 8; n++) {
            int bytes = n;
            twins.unchanged("write(-1, " + n + ")", town -> town.write(-1, bytes), FULL);
        }
        Twins almost = new Twins(checks, "a text of 199 bytes", () -> {
            BallTown town = lived();
            Checks.write(town, "well 4" + " ".repeat(193));
            return town;
        });
        for (int n = 2; n <= 8; n++) {
            int bytes = n;
            almost.unchanged("write(-1, " + n + ")", town -> town.write(-1, bytes), FULL);
        }
    }

    /** "FORETOLD (nothing changes)", nor does any call that only tells what is. */
    private static void foretoldChangesNothing() {
        List<Supplier<BallTown>> towns = List.of(BallTown::new, RefusedTest::withText, RefusedTest::withFalseText,
            RefusedTest::shutAndFull);
        for (Supplier<BallTown> made : towns) {
            Twins twins = new Twins(checks, "asked", made);
            for (int i = 0; i < 12; i++) {
                foretold(twins, i);
            }
            twins.unchanged("fault()", BallTown::fault);
            twins.unchanged("alike()", BallTown::alike);
        }
    }

    private static void foretold(Twins twins, int i) {
        ToLongFunction<BallTown> all = town -> town.beside(i, 0) + town.side(i, 3) + town.far(0, i) + town.other(i)
            + town.goes(i, 2, 3) + town.field(i, i % 4) + town.as(i, i % 5) + town.walker(i % 3);
        twins.unchanged("what tells of " + i, all);
        twins.unchanged("home(" + i % 5 + ")", town -> town.home(i % 5));
        twins.unchanged("like(" + i % 2 + ")", town -> town.like(i % 2));
        twins.unchanged("fixed(" + i + ", 3, 5)", town -> town.fixed(i, 3, 5));
        twins.unchanged("unlike(" + (i % 8 + 1) + ")", town -> town.unlike(i % 8 + 1));
        twins.unchanged("wardens(" + i % 3 + ")", town -> town.wardens(i % 3));
        twins.unchanged("inside(" + i + ")", town -> town.inside(i));
        twins.unchanged("rounds(" + (i - 1) + ")", town -> town.rounds(i - 1));
        twins.unchanged("walks(" + i + ", 4, 20)", town -> town.walks(i, 4, 20));
        twins.unchanged("odds(" + i + ", 4, 8, 1)", town -> town.odds(i, 4, 8, 1));
        twins.unchanged("count(" + i % 8 + ")", town -> town.count(i % 8));
    }
}

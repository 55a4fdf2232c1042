import java.util.ArrayList;
import java.util.List;
import java.util.function.Supplier;
import java.util.function.ToLongFunction;

/** Tells whether a call changes a town: of two towns made alike one is called, and then both are asked everything. */
final class Twins {
    private final Checks checks;
    private final String name;
    private final Supplier<BallTown> made;
    private final List<String> want;

    Twins(Checks checks, String name, Supplier<BallTown> made) {
        this.checks = checks;
        this.name = name;
        this.made = made;
        want = asked(made.get());
    }

    /** The call must answer so, and the town must be then as its twin. */
    void unchanged(String call, ToLongFunction<BallTown> asks, long answer) {
        BallTown town = made.get();
        checks.due(name + ": " + call, asks.applyAsLong(town), answer);
        same(call, town);
    }

    /** The call may answer what it likes, but the town must be then as its twin. */
    void unchanged(String call, ToLongFunction<BallTown> asks) {
        BallTown town = made.get();
        asks.applyAsLong(town);
        same(call, town);
    }

    private void same(String call, BallTown town) {
        List<String> got = asked(town);
        int other = 0;
        while (other < want.size() && got.get(other).equals(want.get(other))) {
            other++;
        }
        String told = other == want.size() ? "" : got.get(other) + ", and not " + want.get(other);
        checks.due(name + ": behind " + call + " " + told, other, want.size());
    }

    /** All that can be asked; the last questions change the town, so that what was kept and told shows, too. */
    static List<String> asked(BallTown town) {
        List<String> all = new ArrayList<>();
        add(all, "count(7)", town.count(7));
        add(all, "fault()", town.fault());
        now(all, town);
        foretold(all, town);
        for (int k = 0; k < 2; k++) {
            add(all, "like(" + k + ")", town.like(k));
        }
        for (int k = 0; k < 2; k++) {
            add(all, "back(" + k + ")", town.back(k));
            now(all, town);
        }
        add(all, "town()", town.town());
        now(all, town);
        add(all, "erase()", town.erase());
        Checks.write(town, "fallow 0");
        add(all, "town() of fallow 0", town.town());
        now(all, town);
        return all;
    }

    private static void add(List<String> all, String call, long answer) {
        all.add(call + " " + answer);
    }

    private static void now(List<String> all, BallTown town) {
        for (int field = 0; field < 12; field++) {
            add(all, "kind of " + field, town.field(field, 0));
            add(all, "walls of " + field, town.field(field, 1));
        }
        for (int what = 0; what < 3; what++) {
            add(all, "walker(" + what + ")", town.walker(what));
        }
    }

    private static void foretold(List<String> all, BallTown town) {
        for (int turn = 0; turn < 5; turn++) {
            add(all, "home(" + turn + ")", town.home(turn));
        }
        for (int what = 0; what < 7; what++) {
            add(all, "count(" + what + ")", town.count(what));
        }
        for (int what = 0; what < 3; what++) {
            add(all, "wardens(" + what + ")", town.wardens(what));
        }
        for (int i = -1; i < 12; i++) {
            add(all, "rounds(" + i + ")", town.rounds(i));
        }
        for (int field = 0; field < 12; field++) {
            add(all, "field(" + field + ", 2)", town.field(field, 2));
            add(all, "inside(" + field + ")", town.inside(field));
            add(all, "walks(4, " + field + ", 7)", town.walks(4, field, 7));
            add(all, "odds(4, " + field + ", 3, 0)", town.odds(4, field, 3, 0));
        }
        add(all, "alike()", town.alike());
    }
}

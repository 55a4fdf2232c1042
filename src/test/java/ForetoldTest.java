/** Promises 18 to 28: what is foretold, and the counts. */
public final class ForetoldTest {
    private static final int NONE = -1, UNKNOWN = -2, OUTSIDE = -3, NOT = -4;
    private static final String SHUT_0 = "wall 0 1;wall 0 2;wall 0 3;wall 0 4;wall 0 5";
    private static final Checks checks = new Checks();

    public static void main(String[] args) {
        home();
        alike();
        like();
        fixed();
        unlike();
        wardens();
        inside();
        rounds();
        walks();
        odds();
        count();
        nothingChanges();
        checks.end("ForetoldTest");
    }

    private static void home() {
        BallTown town = new BallTown();
        int[] open = {2, 3, 5, 5, 3};
        for (int turn = 0; turn < 5; turn++) {
            checks.due("home(" + turn + ")", town.home(turn), open[turn]);
        }
        for (int bad : Checks.noSides()) {
            checks.due("home(" + bad + ")", town.home(bad), OUTSIDE);
        }
        checks.tell(town, "wall 0 1");
        for (int turn = 0; turn < 5; turn++) {
            checks.due("the wall by which he would come in, home(" + turn + ")", town.home(turn), NONE);
        }
        checks.tell(town, "gate 0 1;wall 7 6");
        checks.due("a wall later", town.home(2), NONE);
        checks.due("none there", town.home(1), 3);
        checks.due("none there either", town.home(0), 2);
        checks.due("he stays", town.walker(0) + town.walker(1) + town.walker(2), 0);
    }

    private static void alike() {
        checks.due("all fallow", new BallTown().alike(), 60);
        checks.due("one wheat", Checks.townOf("wheat 3").alike(), 5);
        checks.due("two opposite", Checks.townOf("wheat 3;wheat 10").alike(), 10);
        checks.due("two opposite, unlike", Checks.townOf("wheat 3;vine 10").alike(), 5);
        checks.due("two beside", Checks.townOf("wheat 0;wheat 1").alike(), 2);
        checks.due("three at a corner", Checks.townOf("well 0;well 1;well 2").alike(), 3);
        checks.due("unlike beside", Checks.townOf("well 0;wheat 1").alike(), 1);
        checks.due("walls count not", Checks.townOf("wall 0 1;stand 4 4").alike(), 60);
    }

    private static void like() {
        BallTown town = Checks.townOf("wheat 0;wheat 1");
        checks.due("like(0) ahead of keep", town.like(0), NOT);
        town.keep(0);
        checks.due("like itself", town.like(0), 2);
        checks.due("like(1)", town.like(1), NOT);
        town.rotate(8, 3);
        checks.due("like turned", town.like(0), 2);
        town.keep(1);
        checks.due("like(1) then", town.like(1), 2);
        for (int bad : new int[] {-1, 2, Integer.MIN_VALUE, Integer.MAX_VALUE}) {
            checks.due("like(" + bad + ")", town.like(bad), UNKNOWN);
        }
        checks.tell(town, "vine 5");
        checks.due("gone with the text", town.like(0), NOT);
    }

    private static long power(long k, int n) {
        long power = 1;
        for (int i = 0; i < n; i++) {
            power *= k;
        }
        return power;
    }

    /** A turning about a field leaves 4 rings of fields, one about a corner 4, one about an edge 6. */
    private static void fixed() {
        BallTown town = new BallTown();
        int[] byRings = new int[13];
        for (int a = 0; a < 12; a++) {
            for (int s = 0; s < 5; s++) {
                int rings = 0;
                while (town.fixed(a, s, 2) > power(2, rings) && rings < 12) {
                    rings++;
                }
                byRings[rings]++;
                for (int k = 1; k <= 8; k++) {
                    checks.due("fixed(" + a + ", " + s + ", " + k + ")", town.fixed(a, s, k), power(k, rings));
                }
            }
        }
        checks.due("turnings with 12 rings", byRings[12], 1);
        checks.due("turnings with 6 rings", byRings[6], 15);
        checks.due("turnings with 4 rings", byRings[4], 44);
        checks.due("fixed(0, 0, 8)", town.fixed(0, 0, 8), 68719476736L);
        checks.due("fixed(0, 2, 3)", town.fixed(0, 2, 3), 81);
        checks.due("fixed(1, 0, 3)", town.fixed(1, 0, 3), 729);
        for (int bad : Checks.noFields()) {
            checks.due("fixed(" + bad + ", 0, 1)", town.fixed(bad, 0, 1), UNKNOWN);
            checks.due("fixed(" + bad + ", 0, 9)", town.fixed(bad, 0, 9), UNKNOWN);
        }
        for (int bad : Checks.noSides()) {
            checks.due("fixed(0, " + bad + ", 0)", town.fixed(0, bad, 0), UNKNOWN);
        }
        for (int bad : new int[] {0, 9, -1, Integer.MIN_VALUE, Integer.MAX_VALUE}) {
            checks.due("fixed(0, 0, " + bad + ")", town.fixed(0, 0, bad), OUTSIDE);
        }
    }

    private static void unlike() {
        BallTown town = Checks.townOf("wheat 0;wall 0 1");
        long[] want = {1, 96, 9099, 280832, 4073375, 36292320, 230719293, 1145393152};
        for (int k = 1; k <= 8; k++) {
            checks.due("unlike(" + k + ")", town.unlike(k), want[k - 1]);
            checks.due("by its formula", town.unlike(k), (power(k, 12) + 44 * power(k, 4) + 15 * power(k, 6)) / 60);
        }
        for (int bad : new int[] {0, 9, -1, Integer.MIN_VALUE, Integer.MAX_VALUE}) {
            checks.due("unlike(" + bad + ")", town.unlike(bad), OUTSIDE);
        }
    }

    private static void wardens() {
        BallTown town = new BallTown();
        int[] open = {4, 83, 135};
        for (int what = 0; what < 3; what++) {
            checks.due("wardens(" + what + ")", town.wardens(what), open[what]);
        }
        checks.tell(town, SHUT_0);
        checks.due("0 shut: none", town.wardens(0), NONE);
        checks.due("0 shut: no set", town.wardens(1), NONE);
        checks.due("0 shut: no sets", town.wardens(2), 0);
        checks.tell(town, "gate 0 3");
        checks.due("0 open to 3", town.wardens(0), 4);
        checks.due("0 open to 3: the least", town.wardens(1), 90);
        checks.due("0 open to 3: sets", town.wardens(2), 39);
        checks.due("wardens(-1)", town.wardens(-1), OUTSIDE);
        checks.due("wardens(3)", town.wardens(3), OUTSIDE);
        checks.due("the set asked for first", new BallTown().wardens(1), 83);
        checks.due("the sets asked for first", new BallTown().wardens(2), 135);
        checks.tell(town, "town");
        checks.due("as at first: the least", town.wardens(1), 83);
        checks.tell(town, SHUT_0);
        checks.due("shut again", town.wardens(1), NONE);
        BallTown paired = pairedTown();
        checks.due("pairs: all", paired.wardens(0), 12);
        checks.due("pairs: the set", paired.wardens(1), 4095);
        checks.due("pairs: sets", paired.wardens(2), 1);
    }

    /** Six pairs of fields, each pair open to one another and to none else. */
    private static BallTown pairedTown() {
        int[] mate = {1, 0, 3, 2, 9, 10, 7, 6, 11, 4, 5, 8};
        BallTown town = townOfPairs(mate, mate);
        checks.due("24 walls", town.count(4), 24);
        return town;
    }

    /** Walls between all that are beside one another but those which the two rows pair, by as many texts as it needs. */
    private static BallTown townOfPairs(int[] one, int[] two) {
        BallTown town = new BallTown();
        StringBuilder text = new StringBuilder();
        int lines = 0;
        for (int field = 0; field < 12; field++) {
            for (int other = field + 1; other < 12; other++) {
                if (town.side(field, other) != NONE && one[field] != other && two[field] != other) {
                    text.append(lines == 0 ? "" : ";").append("wall ").append(field).append(' ').append(other);
                    lines++;
                }
                if (lines == 12) {
                    checks.tell(town, text.toString());
                    text.setLength(0);
                    lines = 0;
                }
            }
        }
        if (lines > 0) {
            checks.tell(town, text.toString());
        }
        return town;
    }

    private static void inside() {
        BallTown town = new BallTown();
        for (int field = 0; field < 12; field++) {
            checks.due("inside(" + field + ")", town.inside(field), 4095);
        }
        checks.tell(town, SHUT_0);
        checks.due("0 alone", town.inside(0), 1);
        checks.due("all others", town.inside(7), 4094);
        checks.due("two insides", town.count(6), 2);
        checks.tell(town, "gate 0 1;wall 1 5;wall 1 10;wall 1 6;wall 1 2");
        checks.due("0 and 1", town.inside(0), 3);
        checks.due("1 and 0", town.inside(1), 3);
        checks.due("others", town.inside(11), 4092);
        for (int bad : Checks.noFields()) {
            checks.due("inside(" + bad + ")", town.inside(bad), UNKNOWN);
        }
        BallTown paired = pairedTown();
        checks.due("pairs", paired.inside(8), 1 << 8 | 1 << 11);
        checks.due("six pairs", paired.count(6), 6);
    }

    private static void rounds() {
        BallTown town = new BallTown();
        checks.due("rounds(NONE)", town.rounds(NONE), 1280);
        int[] first = {0, 1, 2, 3, 4, 8, 7, 6, 10, 11, 9, 5};
        for (int i = 0; i < 12; i++) {
            checks.due("rounds(" + i + ")", town.rounds(i), first[i]);
        }
        for (int bad : new int[] {-2, 12, Integer.MIN_VALUE, Integer.MAX_VALUE}) {
            checks.due("rounds(" + bad + ")", town.rounds(bad), OUTSIDE);
        }
        checks.tell(town, SHUT_0);
        checks.due("none", town.rounds(NONE), 0);
        checks.due("no first one", town.rounds(0), NONE);
        checks.due("no last one", town.rounds(11), NONE);
        checks.due("outside though none", town.rounds(12), OUTSIDE);
        checks.tell(town, "gate 0 3");
        checks.due("one gate is too few", town.rounds(NONE), 0);
        checks.tell(town, "gate 0 5");
        checks.due("by two gates", town.rounds(NONE), 120);
        checks.due("first by 3", town.rounds(1), 3);
        checks.due("last by 5", town.rounds(11), 5);
        checks.tell(town, "town");
        checks.due("as at first", town.rounds(NONE), 1280);
        checks.due("a field asked for first", new BallTown().rounds(5), 8);
        oneRound(first);
    }

    private static void oneRound(int[] round) {
        int[] next = new int[12];
        int[] last = new int[12];
        for (int i = 0; i < 12; i++) {
            next[round[i]] = round[(i + 1) % 12];
            last[round[(i + 1) % 12]] = round[i];
        }
        BallTown town = townOfPairs(next, last);
        checks.due("walls but for one round", town.count(4), 18);
        checks.due("one round", town.rounds(NONE), 1);
        for (int i = 0; i < 12; i++) {
            checks.due("its field " + i, town.rounds(i), round[i]);
        }
        checks.tell(town, "wall 7 8");
        checks.due("its last gate shut", town.rounds(NONE), 0);
        checks.due("no field then", town.rounds(1), NONE);
    }

    private static void walks() {
        BallTown town = new BallTown();
        checks.due("walks(3, 3, 0)", town.walks(3, 3, 0), 1);
        checks.due("walks(3, 4, 0)", town.walks(3, 4, 0), 0);
        checks.due("walks(3, 4, 1)", town.walks(3, 4, 1), 1);
        checks.due("walks(3, 4, 2)", town.walks(3, 4, 2), 2);
        checks.due("walks(3, 3, 2)", town.walks(3, 3, 2), 5);
        checks.due("walks(0, 11, 3)", town.walks(0, 11, 3), 10);
        checks.due("walks(0, 11, 20)", town.walks(0, 11, 20), 7947281087240L);
        long all = 0;
        for (int to = 0; to < 12; to++) {
            all += town.walks(5, to, 20);
        }
        checks.due("walks of 20 to all", all, 95367431640625L);
        for (int bad : Checks.noFields()) {
            checks.due("walks(" + bad + ", 0, 0)", town.walks(bad, 0, 0), UNKNOWN);
            checks.due("walks(0, " + bad + ", 21)", town.walks(0, bad, 21), UNKNOWN);
        }
        for (int bad : new int[] {-1, 21, Integer.MIN_VALUE, Integer.MAX_VALUE}) {
            checks.due("walks(0, 0, " + bad + ")", town.walks(0, 0, bad), OUTSIDE);
        }
        checks.tell(town, SHUT_0);
        checks.due("shut", town.walks(0, 0, 5), 0);
        checks.due("shut, no step", town.walks(0, 0, 0), 1);
        checks.due("beside the shut", town.walks(1, 2, 3), 9);
        BallTown paired = pairedTown();
        checks.due("to and fro", paired.walks(8, 8, 20), 1);
        checks.due("to and fro, odd", paired.walks(8, 8, 19), 0);
    }

    private static void odds(BallTown town, int from, int to, int n, long above, long below) {
        String call = "odds(" + from + ", " + to + ", " + n + ", ";
        checks.due(call + "0)", town.odds(from, to, n, 0), above);
        checks.due(call + "1)", town.odds(from, to, n, 1), below);
    }

    private static void odds() {
        BallTown town = new BallTown();
        odds(town, 4, 4, 0, 1, 1);
        odds(town, 4, 5, 0, 0, 1);
        odds(town, 4, 5, 1, 1, 5);
        odds(town, 4, 4, 1, 0, 1);
        odds(town, 4, 4, 2, 1, 5);
        odds(town, 4, 5, 2, 2, 25);
        odds(town, 0, 11, 8, 6448, 78125);
        checks.tell(town, SHUT_0);
        odds(town, 0, 0, 0, 1, 1);
        odds(town, 0, 0, 8, 1, 1);
        odds(town, 0, 1, 8, 0, 1);
        odds(town, 1, 2, 3, 187, 1600);
        oddsRefused(town);
        BallTown paired = pairedTown();
        odds(paired, 8, 11, 7, 1, 1);
        odds(paired, 8, 11, 8, 0, 1);
    }

    private static void oddsRefused(BallTown town) {
        for (int bad : Checks.noFields()) {
            checks.due("odds(" + bad + ", 0, 0, 0)", town.odds(bad, 0, 0, 0), UNKNOWN);
            checks.due("odds(0, " + bad + ", 9, 2)", town.odds(0, bad, 9, 2), UNKNOWN);
        }
        for (int bad : new int[] {-1, 9, Integer.MIN_VALUE, Integer.MAX_VALUE}) {
            checks.due("odds(0, 0, " + bad + ", 0)", town.odds(0, 0, bad, 0), OUTSIDE);
        }
        for (int bad : new int[] {-1, 2, Integer.MIN_VALUE, Integer.MAX_VALUE}) {
            checks.due("odds(0, 0, 0, " + bad + ")", town.odds(0, 0, 0, bad), OUTSIDE);
        }
    }

    private static void count() {
        BallTown town = Checks.townOf("wheat 0;wheat 1;vine 2;vine 3;vine 6;well 5;wall 7 8;wall 0 2;wall 11 6");
        Checks.write(town, "town;");
        int[] want = {6, 2, 3, 1, 3, 3 + 3 + 2 + 2 + 2 + 1, 1, 5};
        for (int what = 0; what < want.length; what++) {
            checks.due("count(" + what + ")", town.count(what), want[what]);
        }
        checks.due("count(-1)", town.count(-1), OUTSIDE);
        checks.due("count(8)", town.count(8), OUTSIDE);
        checks.due("count(most)", town.count(Integer.MAX_VALUE), OUTSIDE);
        checks.due("count(least)", town.count(Integer.MIN_VALUE), OUTSIDE);
    }

    private static void nothingChanges() {
        BallTown town = Checks.townOf("wheat 0;vine 4;wall 0 1;stand 3 3");
        town.step(1);
        town.keep(0);
        town.rotate(5, 1);
        for (int call = 0; call < 2; call++) {
            checks.due("alike", town.alike(), 1);
            checks.due("like", town.like(0), 1);
            checks.due("rounds", town.rounds(NONE), town.rounds(NONE));
            checks.due("wardens", town.wardens(1), town.wardens(1));
            checks.due("walks", town.walks(0, 0, 2), 4);
            checks.due("odds", town.odds(0, 0, 1, 1), 1);
            checks.due("home", town.home(0), 2);
            checks.due("steps", town.walker(2), 1);
            checks.due("wheat", town.field(5, 0), 1);
            checks.due("walls", town.count(4), 1);
        }
        checks.due("back", town.back(0), 1);
        checks.due("wheat again", town.field(0, 0), 1);
    }
}

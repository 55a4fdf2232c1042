import java.util.ArrayList;
import java.util.List;

/** The edges of promises 18 to 28. Each test is named by the document's words that it holds the class to. */
public final class EdgesOfForetoldTest {
    private static final int NONE = -1, UNKNOWN = -2, OUTSIDE = -3, NOT = -4;
    private static final int[] ROUND = {0, 1, 2, 3, 4, 8, 7, 6, 10, 11, 9, 5};
    private static final Checks checks = new Checks();

    public static void main(String[] args) {
        turnsOfHome();
        homeFromEverywhere();
        aWallIsAheadOfHome();
        alikeFromOneToSixty();
        likeOfNothingKept();
        likeFromOneToSixty();
        fixedByOneToEight();
        unlikeOfOneToEight();
        whatOfWardens();
        noWardens();
        theLeastOfSeveralSets();
        foretoldAnew();
        insideOfOneAndOfAll();
        numbersOfRounds();
        noRounds();
        secondLessThanLast();
        lastIsOpenToNought();
        stepsOfWalks();
        walksOfTheShut();
        stepsAndPartsOfOdds();
        noneIsHeStays();
        lowestTerms();
        whatOfCount();
        countsFromNoneToAll();
        checks.end("EdgesOfForetoldTest");
    }

    private static BallTown shutTown() {
        BallTown town = new BallTown();
        checks.tellOfPairs(town, "wall", Sewn.pairs());
        return town;
    }

    /** Walls between all that are beside one another, but for the neighbours in a row; closed: its ends, too. */
    private static BallTown rowTown(int[] row, boolean closed) {
        List<int[]> walls = new ArrayList<>();
        for (int[] pair : Sewn.pairs()) {
            boolean open = closed && isPair(pair, row[row.length - 1], row[0]);
            for (int i = 0; i + 1 < row.length; i++) {
                open |= isPair(pair, row[i], row[i + 1]);
            }
            if (!open) {
                walls.add(pair);
            }
        }
        BallTown town = new BallTown();
        checks.tellOfPairs(town, "wall", walls);
        return town;
    }

    private static boolean isPair(int[] pair, int one, int other) {
        return pair[0] == Math.min(one, other) && pair[1] == Math.max(one, other);
    }

    private static String shut(int field) {
        StringBuilder text = new StringBuilder();
        for (int next : Sewn.BALL[field]) {
            text.append(text.length() == 0 ? "" : ";").append("wall ").append(field).append(' ').append(next);
        }
        return text.toString();
    }

    /** "home(int turn)" .. "OUTSIDE", also where a WALL is. */
    private static void turnsOfHome() {
        int[] turns = {Integer.MIN_VALUE, -1, 0, 4, 5, Integer.MAX_VALUE};
        int[] want = {OUTSIDE, OUTSIDE, 2, 3, OUTSIDE, OUTSIDE};
        BallTown open = new BallTown();
        BallTown shut = shutTown();
        for (int i = 0; i < turns.length; i++) {
            checks.due("home(" + turns[i] + ")", open.home(turns[i]), want[i]);
            checks.due("shut, home(" + turns[i] + ")", shut.home(turns[i]), want[i] == OUTSIDE ? OUTSIDE : NONE);
        }
    }

    /** The states on the way home by a turn, from the first one to the last one, which is the first again. */
    private static List<int[]> wayHome(int field, int side, int turn) {
        List<int[]> way = new ArrayList<>();
        int[] at = {field, side};
        do {
            way.add(at);
            at = Sewn.stepped(at[0], at[1], turn);
        } while (at[0] != field || at[1] != side);
        way.add(at);
        return way;
    }

    /** "the fewest STEPS, .. behind which the WALKER is in his FIELD, come in by his SIDE": one at least. */
    private static void homeFromEverywhere() {
        for (int field = 0; field < 12; field++) {
            for (int side = 0; side < 5; side++) {
                BallTown town = Checks.townOf("stand " + field + " " + side);
                for (int turn = 0; turn < 5; turn++) {
                    int want = wayHome(field, side, turn).size() - 1;
                    checks.due("home(" + turn + ")", town.home(turn), want);
                    for (int step = 1; step <= want; step++) {
                        town.step(turn);
                        boolean home = town.walker(0) == field && town.walker(1) == side;
                        checks.due("home behind step " + step, home ? 1 : 0, step == want ? 1 : 0);
                    }
                    checks.due("as many from here", town.home(turn), want);
                }
            }
        }
    }

    /** "none: a WALL is ahead of that", at every step of the way, and nowhere else. */
    private static void aWallIsAheadOfHome() {
        for (int turn = 0; turn < 5; turn++) {
            List<int[]> way = wayHome(2, 3, turn);
            for (int[] pair : Sewn.pairs()) {
                boolean ahead = false;
                for (int i = 0; i + 1 < way.size(); i++) {
                    ahead |= isPair(pair, way.get(i)[0], way.get(i + 1)[0]);
                }
                BallTown town = Checks.townOf("stand 2 3;wall " + pair[0] + " " + pair[1]);
                checks.due("home(" + turn + ")", town.home(turn), ahead ? NONE : way.size() - 1);
            }
        }
    }

    /** "how many TURNINGS leave all KINDS as they are": (0, 0) does always. */
    private static void alikeFromOneToSixty() {
        for (String kind : new String[] {"fallow", "wheat", "vine", "well"}) {
            StringBuilder text = new StringBuilder();
            for (int field = 0; field < 12; field++) {
                text.append(field == 0 ? "" : ";").append(kind).append(field);
            }
            BallTown town = Checks.townOf(text.toString());
            checks.due("all " + kind, town.alike(), 60);
            checks.tell(town, "fallow 11");
            checks.due("all " + kind + " but one", town.alike(), kind.equals("fallow") ? 60 : 5);
        }
        checks.due("one alone", Checks.townOf("wheat 0;vine 1;well 2").alike(), 1);
        checks.due("two kinds at a side", Checks.townOf("wheat 0;vine 1").alike(), 1);
        checks.due("as told in another order", Checks.townOf("vine 1;wheat 0;fallow 5").alike(), 1);
        checks.due("walls and walker are none", Checks.townOf("wall 0 1;stand 7 1").alike(), 60);
    }

    /** "LIKE what was kept. UNKNOWN: no such k; NOT: nothing was kept." */
    private static void likeOfNothingKept() {
        int[] ks = {Integer.MIN_VALUE, -1, 0, 1, 2, Integer.MAX_VALUE};
        for (int k : ks) {
            boolean is = k == 0 || k == 1;
            BallTown town = new BallTown();
            checks.due("nothing kept, like(" + k + ")", town.like(k), is ? NOT : UNKNOWN);
            town.keep(k);
            checks.due("like(" + k + ")", town.like(k), is ? 60 : UNKNOWN);
            checks.due("like the other one", town.like(k == 0 ? 1 : 0), NOT);
            checks.tell(town, "gate 0 1");
            checks.due("nothing since the text, like(" + k + ")", town.like(k), is ? NOT : UNKNOWN);
        }
    }

    /** "by how many they are as that kept them": one at least, as no text can have been since, but TURNINGS alone. */
    private static void likeFromOneToSixty() {
        BallTown town = Checks.townOf("wheat 0;well 5");
        town.keep(0);
        for (int turning = 0; turning < 60; turning++) {
            town.rotate(turning / 5, turning % 5);
            checks.due("turned", town.like(0), 1);
            checks.due("itself", town.alike(), 1);
        }
        BallTown pair = Checks.townOf("wheat 3;wheat 10");
        pair.keep(1);
        pair.rotate(7, 1);
        checks.due("two opposite", pair.like(1), 10);
        pair.keep(0);
        pair.back(1);
        checks.due("back, and like those TURNED", pair.like(0), 10);
        BallTown fallow = new BallTown();
        fallow.keep(0);
        fallow.rotate(3, 3);
        checks.due("all of one kind", fallow.like(0), 60);
        town.step(2);
        checks.due("steps are nothing to it", town.like(0), 1);
    }

    private static long power(long k, int n) {
        return n == 0 ? 1 : k * power(k, n - 1);
    }

    /** "for k KINDS (1 .. 8)" .. "UNKNOWN; OUTSIDE." */
    private static void fixedByOneToEight() {
        BallTown town = new BallTown();
        int[] ks = {Integer.MIN_VALUE, -1, 0, 1, 8, 9, Integer.MAX_VALUE};
        for (int k : ks) {
            boolean is = k >= 1 && k <= 8;
            checks.due("fixed(0, 0, " + k + ")", town.fixed(0, 0, k), is ? power(k, 12) : OUTSIDE);
            checks.due("fixed(0, 4, " + k + ")", town.fixed(0, 4, k), is ? power(k, 4) : OUTSIDE);
            checks.due("fixed(1, 0, " + k + ")", town.fixed(1, 0, k), is ? power(k, 6) : OUTSIDE);
            checks.due("fixed(11, 4, " + k + ")", town.fixed(11, 4, k), is ? power(k, ringsOf(11, 4)) : OUTSIDE);
            int[][] bad = {{-1, 0}, {12, 0}, {0, -1}, {0, 5}, {12, 5}};
            for (int[] turning : bad) {
                checks.due("no such turning, k " + k, town.fixed(turning[0], turning[1], k), UNKNOWN);
            }
        }
        for (int turning = 0; turning < 60; turning++) {
            int rings = ringsOf(turning / 5, turning % 5);
            checks.due("for 2 kinds", town.fixed(turning / 5, turning % 5, 2), 1L << rings);
            checks.due("for 1 kind", town.fixed(turning / 5, turning % 5, 1), 1);
        }
    }

    /** In how many rings a turning brings the fields round. */
    private static int ringsOf(int a, int s) {
        BallTown town = new BallTown();
        int rings = 0;
        for (int field = 0; field < 12; field++) {
            int least = field;
            for (int at = town.goes(a, s, field); at != field; at = town.goes(a, s, at)) {
                least = Math.min(least, at);
            }
            rings += least == field ? 1 : 0;
        }
        return rings;
    }

    /** "UNLIKE. OUTSIDE.": the least k, the last one, those that are not taken; KINDS told are nothing to it. */
    private static void unlikeOfOneToEight() {
        int[] ks = {Integer.MIN_VALUE, -1, 0, 1, 2, 8, 9, Integer.MAX_VALUE};
        long[] want = {OUTSIDE, OUTSIDE, OUTSIDE, 1, 96, 1145393152L, OUTSIDE, OUTSIDE};
        BallTown town = Checks.townOf("wheat 0;vine 1;wall 3 4");
        for (int i = 0; i < ks.length; i++) {
            checks.due("unlike(" + ks[i] + ")", town.unlike(ks[i]), want[i]);
            checks.due("a new one's", new BallTown().unlike(ks[i]), want[i]);
        }
    }

    /** "how many (what 0), the set (1), how many such sets (2; 0); NONE. OUTSIDE." */
    private static void whatOfWardens() {
        int[] whats = {Integer.MIN_VALUE, -1, 0, 1, 2, 3, Integer.MAX_VALUE};
        int[] open = {OUTSIDE, OUTSIDE, 4, 83, 135, OUTSIDE, OUTSIDE};
        int[] none = {OUTSIDE, OUTSIDE, NONE, NONE, 0, OUTSIDE, OUTSIDE};
        BallTown shut = shutTown();
        for (int i = 0; i < whats.length; i++) {
            checks.due("wardens(" + whats[i] + ")", new BallTown().wardens(whats[i]), open[i]);
            checks.due("shut, wardens(" + whats[i] + ")", shut.wardens(whats[i]), none[i]);
        }
    }

    /** "each FIELD (these, too) has one of them OPEN to it" .. "none": as soon as one FIELD has none. */
    private static void noWardens() {
        for (int field = 0; field < 12; field++) {
            BallTown town = Checks.townOf(shut(field));
            checks.due(field + " is shut: how many", town.wardens(0), NONE);
            checks.due(field + " is shut: the set", town.wardens(1), NONE);
            checks.due(field + " is shut: sets", town.wardens(2), 0);
            for (int next : Sewn.BALL[field]) {
                checks.tell(town, "gate " + field + " " + next);
                checks.due("one is open: there are", town.wardens(0) > 0 ? 1 : 0, 1);
                checks.due("that one is of them", town.wardens(1) >> next & 1, 1);
                checks.tell(town, "wall " + field + " " + next);
                checks.due("shut again: none", town.wardens(0), NONE);
                checks.due("shut again: no set", town.wardens(1), NONE);
                checks.due("shut again: no sets", town.wardens(2), 0);
            }
        }
    }

    /** "the fewest .. how many, the set (by bits; of several the least), how many such sets" */
    private static void theLeastOfSeveralSets() {
        wardensByEachSet("an open town", new BallTown());
        wardensByEachSet("a ring", rowTown(ROUND, true));
        wardensByEachSet("a row", rowTown(ROUND, false));
        allAreWardens();
        for (int field = 0; field < 12; field++) {
            for (int side = 0; side < 5; side++) {
                String text = shut(field) + ";gate " + field + " " + Sewn.BALL[field][side];
                wardensByEachSet(text, Checks.townOf(text));
            }
        }
    }

    /** Six pairs, each open within alone: no field can be left out, and no more wardens than these can be needed. */
    private static void allAreWardens() {
        int[][] open = {{0, 1}, {2, 3}, {4, 9}, {5, 10}, {6, 7}, {8, 11}};
        List<int[]> walls = Sewn.pairs();
        for (int[] two : open) {
            walls.removeIf(pair -> isPair(pair, two[0], two[1]));
        }
        BallTown town = new BallTown();
        checks.tellOfPairs(town, "wall", walls);
        checks.due("all: how many", town.wardens(0), 12);
        checks.due("all: the set", town.wardens(1), 4095);
        checks.due("all: sets", town.wardens(2), 1);
        checks.due("six insides", town.count(6), 6);
    }

    private static void wardensByEachSet(String name, BallTown town) {
        int[] open = new int[12];
        for (int field = 0; field < 12; field++) {
            open[field] = town.field(field, 3);
        }
        int[] sets = new int[13];
        int[] least = new int[13];
        for (int set = 4095; set >= 0; set--) {
            if (wardsAll(open, set)) {
                sets[Integer.bitCount(set)]++;
                least[Integer.bitCount(set)] = set;
            }
        }
        int fewest = 0;
        while (fewest < 12 && sets[fewest] == 0) {
            fewest++;
        }
        boolean none = sets[fewest] == 0;
        checks.due(name + ": how many", town.wardens(0), none ? NONE : fewest);
        checks.due(name + ": the least set", town.wardens(1), none ? NONE : least[fewest]);
        checks.due(name + ": sets", town.wardens(2), sets[fewest]);
    }

    private static boolean wardsAll(int[] open, int set) {
        for (int field = 0; field < 12; field++) {
            if ((open[field] & set) == 0) {
                return false;
            }
        }
        return true;
    }

    /** What was foretold once is foretold anew, when a text tells of walls, by each of the words that can. A wall ends 2 of 5 rounds. */
    private static void foretoldAnew() {
        BallTown town = new BallTown();
        String[] texts = {shut(0), "gate 0 3", "gate 0 5", "wall 3 0", "town", "wall 0 1", shut(11)};
        int[] rounds = {0, 0, 120, 0, 1280, 768, 0};
        for (int i = 0; i < texts.length; i++) {
            checks.tell(town, texts[i]);
            checks.due("rounds behind " + texts[i], town.rounds(NONE), rounds[i]);
            wardensByEachSet("behind " + texts[i], town);
        }
    }

    /** "all to which one comes by FIELDS that are OPEN (itself, too)" */
    private static void insideOfOneAndOfAll() {
        BallTown open = new BallTown();
        BallTown shut = shutTown();
        int[] fields = {Integer.MIN_VALUE, -1, 0, 11, 12, Integer.MAX_VALUE};
        for (int field : fields) {
            boolean is = field == 0 || field == 11;
            checks.due("inside(" + field + ")", open.inside(field), is ? 4095 : UNKNOWN);
            checks.due("shut, inside(" + field + ")", shut.inside(field), is ? 1 << field : UNKNOWN);
        }
        checks.due("one inside", open.count(6), 1);
        checks.due("twelve insides", shut.count(6), 12);
        BallTown row = rowTown(ROUND, false);
        for (int field = 0; field < 12; field++) {
            checks.due("all by a row of eleven gates", row.inside(field), 4095);
        }
        checks.tell(row, "wall 8 4");
        checks.due("one end", row.inside(0), 0b11111);
        checks.due("the other end", row.inside(5), 0b111111100000);
        checks.due("two insides", row.count(6), 2);
        insidesApart();
    }

    /** INSIDES whose FIELDS stand between those of others by their numbers. */
    private static void insidesApart() {
        List<int[]> walls = Sewn.pairs();
        walls.removeIf(pair -> isPair(pair, 0, 4) || isPair(pair, 1, 10) || isPair(pair, 2, 7) || isPair(pair, 3, 8));
        BallTown town = new BallTown();
        checks.tellOfPairs(town, "wall", walls);
        int[] mates = {4, 10, 7, 8, 0, 5, 6, 2, 3, 9, 1, 11};
        for (int field = 0; field < 12; field++) {
            checks.due("inside(" + field + ")", town.inside(field), 1 << field | 1 << mates[field]);
        }
        checks.due("four of two, four of one", town.count(6), 8);
    }

    /** "how many (i NONE; 0, if there is none), the i-th FIELD (0 .. 11) of the first; NONE: there is none. OUTSIDE." */
    private static void numbersOfRounds() {
        int[] is = {Integer.MIN_VALUE, -2, -1, 0, 11, 12, Integer.MAX_VALUE};
        int[] open = {OUTSIDE, OUTSIDE, 1280, 0, 5, OUTSIDE, OUTSIDE};
        int[] none = {OUTSIDE, OUTSIDE, 0, NONE, NONE, OUTSIDE, OUTSIDE};
        BallTown shut = shutTown();
        for (int i = 0; i < is.length; i++) {
            checks.due("rounds(" + is[i] + ")", new BallTown().rounds(is[i]), open[i]);
            checks.due("shut, rounds(" + is[i] + ")", shut.rounds(is[i]), none[i]);
        }
    }

    /**
     * None is: with a FIELD that one other alone is OPEN to, and with a row that is not closed.
     * Each of all 1280 rounds goes through two of five gates of a FIELD, that are side by side or apart: 5 * (136 + 120).
     */
    private static void noRounds() {
        for (int field = 0; field < 12; field++) {
            BallTown town = Checks.townOf(shut(field) + ";gate " + field + " " + Sewn.BALL[field][2]);
            checks.due("one gate at " + field, town.rounds(NONE), 0);
            checks.due("no first one", town.rounds(0), NONE);
            checks.tell(town, "gate " + field + " " + Sewn.BALL[field][3]);
            checks.due("two gates side by side at " + field, town.rounds(NONE), 136);
            checks.due("a first one", town.rounds(0), 0);
            checks.tell(town, "wall " + field + " " + Sewn.BALL[field][3] + ";gate " + field + " " + Sewn.BALL[field][4]);
            checks.due("two gates apart at " + field, town.rounds(NONE), 120);
        }
        BallTown row = rowTown(ROUND, false);
        checks.due("a row that is not closed", row.rounds(NONE), 0);
        checks.due("it has no field", row.rounds(1), NONE);
        checks.tell(row, "gate 5 0");
        checks.due("closed", row.rounds(NONE), 1);
        checks.due("it has its fields", row.rounds(1), 1);
    }

    /** "0 first, .. the second one less than the last one": each round once, and by the lesser end. */
    private static void secondLessThanLast() {
        int[] back = new int[12];
        for (int i = 0; i < 12; i++) {
            back[i] = ROUND[(12 - i) % 12];
        }
        for (int[] row : new int[][] {ROUND, back}) {
            BallTown town = rowTown(row, true);
            checks.due("one round", town.rounds(NONE), 1);
            for (int i = 0; i < 12; i++) {
                checks.due("field " + i, town.rounds(i), ROUND[i]);
            }
        }
        BallTown open = new BallTown();
        checks.due("0 first", open.rounds(0), 0);
        checks.due("less", open.rounds(1) < open.rounds(11) ? 1 : 0, 1);
    }

    /** "each OPEN to the next, the last one to 0": a round goes with every gate of its, and with no other one. */
    private static void lastIsOpenToNought() {
        for (int i = 0; i < 12; i++) {
            BallTown town = rowTown(ROUND, true);
            checks.tell(town, "wall " + ROUND[i] + " " + ROUND[(i + 1) % 12]);
            checks.due("without gate " + i, town.rounds(NONE), 0);
            checks.due("nor a field", town.rounds(i), NONE);
        }
        BallTown town = Checks.townOf("wall 0 1");
        checks.due("the first without 0 1", town.rounds(1), 2);
        checks.tell(town, "gate 0 1;wall 5 0");
        checks.due("begins so", town.rounds(1), 1);
        checks.due("and does not end with 5", town.rounds(11) != 5 ? 1 : 0, 1);
    }

    /** "n STEPS (0 .. 20) from one FIELD to another one, or itself" .. "UNKNOWN; OUTSIDE." */
    private static void stepsOfWalks() {
        BallTown town = new BallTown();
        int[] ns = {Integer.MIN_VALUE, -1, 0, 1, 20, 21, Integer.MAX_VALUE};
        long[] itself = {OUTSIDE, OUTSIDE, 1, 0, walksByTable(0, 0, 20), OUTSIDE, OUTSIDE};
        long[] beside = {OUTSIDE, OUTSIDE, 0, 1, walksByTable(0, 1, 20), OUTSIDE, OUTSIDE};
        for (int i = 0; i < ns.length; i++) {
            checks.due("walks(0, 0, " + ns[i] + ")", town.walks(0, 0, ns[i]), itself[i]);
            checks.due("walks(0, 1, " + ns[i] + ")", town.walks(0, 1, ns[i]), beside[i]);
            for (int bad : new int[] {-1, 12}) {
                checks.due("walks(" + bad + ", 0, " + ns[i] + ")", town.walks(bad, 0, ns[i]), UNKNOWN);
                checks.due("walks(0, " + bad + ", " + ns[i] + ")", town.walks(0, bad, ns[i]), UNKNOWN);
            }
        }
        for (int n = 0; n <= 20; n++) {
            for (int to = 0; to < 12; to++) {
                checks.due("walks(11, " + to + ", " + n + ")", town.walks(11, to, n), walksByTable(11, to, n));
            }
        }
    }

    private static long walksByTable(int from, int to, int n) {
        long[] ways = new long[12];
        ways[from] = 1;
        for (int step = 0; step < n; step++) {
            long[] more = new long[12];
            for (int field = 0; field < 12; field++) {
                for (int next : Sewn.BALL[field]) {
                    more[next] += ways[field];
                }
            }
            ways = more;
        }
        return ways[to];
    }

    /** Where none is OPEN there are no WALKS but that of no STEP: he who walks does not stay. */
    private static void walksOfTheShut() {
        BallTown town = Checks.townOf(shut(4));
        for (int n = 0; n <= 20; n++) {
            checks.due("walks(4, 4, " + n + ")", town.walks(4, 4, n), n == 0 ? 1 : 0);
            checks.due("walks(4, 0, " + n + ")", town.walks(4, 0, n), 0);
            checks.due("walks(0, 4, " + n + ")", town.walks(0, 4, n), 0);
        }
        checks.due("round about it", town.walks(0, 9, 2), 1);
    }

    /** "n STEPS (0 .. 8)" .. "above (part 0), below (1)" .. "UNKNOWN; OUTSIDE." */
    private static void stepsAndPartsOfOdds() {
        BallTown town = new BallTown();
        int[] ns = {Integer.MIN_VALUE, -1, 0, 1, 8, 9, Integer.MAX_VALUE};
        long walks = walksByTable(2, 3, 8);
        long common = gcd(walks, 390625);
        long[] above = {OUTSIDE, OUTSIDE, 0, 1, walks / common, OUTSIDE, OUTSIDE};
        long[] below = {OUTSIDE, OUTSIDE, 1, 5, 390625 / common, OUTSIDE, OUTSIDE};
        for (int i = 0; i < ns.length; i++) {
            checks.due("odds(2, 3, " + ns[i] + ", 0)", town.odds(2, 3, ns[i], 0), above[i]);
            checks.due("odds(2, 3, " + ns[i] + ", 1)", town.odds(2, 3, ns[i], 1), below[i]);
            for (int part : new int[] {Integer.MIN_VALUE, -1, 2, Integer.MAX_VALUE}) {
                checks.due("odds(2, 3, " + ns[i] + ", " + part + ")", town.odds(2, 3, ns[i], part), OUTSIDE);
            }
            for (int part = -1; part <= 2; part++) {
                checks.due("odds(-1, 3, " + ns[i] + ", " + part + ")", town.odds(-1, 3, ns[i], part), UNKNOWN);
                checks.due("odds(12, 3, " + ns[i] + ", " + part + ")", town.odds(12, 3, ns[i], part), UNKNOWN);
                checks.due("odds(2, -1, " + ns[i] + ", " + part + ")", town.odds(2, -1, ns[i], part), UNKNOWN);
                checks.due("odds(2, 12, " + ns[i] + ", " + part + ")", town.odds(2, 12, ns[i], part), UNKNOWN);
            }
        }
    }

    private static long gcd(long one, long other) {
        return other == 0 ? one : gcd(other, one % other);
    }

    private static void odds(BallTown town, int from, int to, int n, long above, long below) {
        String call = "odds(" + from + ", " + to + ", " + n + ", ";
        checks.due(call + "0)", town.odds(from, to, n, 0), above);
        checks.due(call + "1)", town.odds(from, to, n, 1), below);
    }

    /** "(none is: he stays)": in a shut FIELD, however many STEPS; in no other one. */
    private static void noneIsHeStays() {
        BallTown town = Checks.townOf(shut(4));
        BallTown paired = Checks.townOf(shut(0) + ";gate 0 1;wall 1 5;wall 1 10;wall 1 6;wall 1 2");
        for (int n = 0; n <= 8; n++) {
            odds(town, 4, 4, n, 1, 1);
            odds(town, 4, 0, n, 0, 1);
            odds(town, 0, 4, n, 0, 1);
            odds(paired, 0, 0, n, 1 - n % 2, 1);
            odds(paired, 0, 1, n, n % 2, 1);
        }
        odds(town, 0, 3, 1, 1, 4);
        odds(town, 6, 7, 1, 1, 5);
    }

    /** "Parts are told in lowest terms": nought is 0 / 1, all is 1 / 1; each number of gates, one to five. */
    private static void lowestTerms() {
        BallTown town = new BallTown();
        odds(town, 7, 7, 0, 1, 1);
        odds(town, 7, 6, 0, 0, 1);
        odds(town, 7, 5, 2, 0, 1);
        odds(town, 7, 7, 2, 1, 5);
        odds(town, 7, 6, 2, 2, 25);
        for (int gates = 4; gates >= 1; gates--) {
            checks.tell(town, "wall 7 " + Sewn.BALL[7][gates]);
            odds(town, 7, Sewn.BALL[7][0], 1, 1, gates);
            odds(town, 7, Sewn.BALL[7][gates], 1, 0, 1);
        }
        BallTown all = Checks.townOf("wall 0 1;wall 3 4;wall 6 11;wall 7 8;wall 7 11");
        for (int n = 0; n <= 8; n++) {
            double sum = 0;
            for (int to = 0; to < 12; to++) {
                long above = all.odds(3, to, n, 0);
                long below = all.odds(3, to, n, 1);
                checks.due("lowest terms", gcd(above, below), 1);
                sum += (double) above / below;
            }
            checks.due("all together, by thousandths", Math.round(sum * 1000), 1000);
        }
    }

    /** "0 FALLOW FIELDS, 1 WHEAT, 2 VINES, 3 WELLS, 4 WALLS, 5 TAX of all, 6 INSIDES .., 7 bytes of THE TEXT. OUTSIDE." */
    private static void whatOfCount() {
        BallTown town = Checks.townOf("wheat 0;wheat 2;vine 1;vine 3;vine 7;well 4;" + shut(11) + ";wall 0 1");
        Checks.write(town, "stand 3 3");
        int[] whats = {Integer.MIN_VALUE, -1, 0, 1, 2, 3, 4, 5, 6, 7, 8, Integer.MAX_VALUE};
        int[] want = {OUTSIDE, OUTSIDE, 6, 2, 3, 1, 6, 3 + 2 + 2 + 1 + 2 + 1, 2, 9, OUTSIDE, OUTSIDE};
        for (int i = 0; i < whats.length; i++) {
            checks.due("count(" + whats[i] + ")", town.count(whats[i]), want[i]);
        }
    }

    /** Each count at its least and at its most. */
    private static void countsFromNoneToAll() {
        String[] kinds = {"fallow", "wheat", "vine", "well"};
        for (int kind = 0; kind < 4; kind++) {
            BallTown town = new BallTown();
            for (int field = 0; field < 12; field++) {
                checks.due("ahead of " + field, town.count(kind), kind == 0 ? 12 : field);
                checks.tell(town, kinds[kind] + " " + field);
            }
            for (int other = 0; other < 4; other++) {
                checks.due("all " + kinds[kind] + ": count(" + other + ")", town.count(other), other == kind ? 12 : 0);
            }
            checks.due("their tax", town.count(5), 12 * new int[] {0, 2, 3, 1}[kind]);
        }
        checks.due("no walls", new BallTown().count(4), 0);
        checks.due("all walls", shutTown().count(4), 30);
        BallTown town = new BallTown();
        for (int bytes = 0; bytes < 200; bytes++) {
            checks.due("bytes", town.count(7), bytes);
            town.write(32, 1);
        }
        checks.due("all bytes", town.count(7), 200);
    }
}

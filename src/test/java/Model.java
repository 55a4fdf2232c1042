import java.math.BigInteger;
import java.util.ArrayList;
import java.util.Arrays;
import java.util.HashSet;
import java.util.List;
import java.util.Set;
import java.util.TreeSet;
import java.util.regex.Matcher;
import java.util.regex.Pattern;

/** The document told a second time, in the slowest and plainest way, with the Java library. */
final class Model {
    static final int NONE = -1, UNKNOWN = -2, OUTSIDE = -3, NOT = -4, FULL = -5;
    private static final String SEWN = "1 2 3 4 5; 0 5 10 6 2; 0 1 6 7 3; 0 2 7 8 4; 0 3 8 9 5; 0 4 9 10 1; "
        + "1 10 11 7 2; 2 6 11 8 3; 3 7 11 9 4; 4 8 11 10 5; 5 9 11 6 1; 10 9 8 7 6";
    private static final List<List<Integer>> BESIDE = sewn();
    private static final int[][] FAR = allFar();
    private static final List<int[]> TURNINGS = allTurnings();
    private static final List<String> KINDS = List.of("fallow", "wheat", "vine", "well");

    private final StringBuilder text = new StringBuilder();
    private int[] toldKinds = new int[12];
    private int[] toldWalker = new int[2];
    private int[] kinds = new int[12];
    private int[] walker = new int[3];
    private final Set<Set<Integer>> walls = new HashSet<>();
    private final int[][] keptKinds = new int[2][];
    private final int[][] keptWalker = new int[2][];
    private List<int[]> roundsNow;

    private static List<List<Integer>> sewn() {
        List<List<Integer>> all = new ArrayList<>();
        for (String row : SEWN.split("; ")) {
            List<Integer> sides = new ArrayList<>();
            for (String next : row.split(" ")) {
                sides.add(Integer.valueOf(next));
            }
            all.add(sides);
        }
        return all;
    }

    private static int[][] allFar() {
        int[][] far = new int[12][12];
        for (int f = 0; f < 12; f++) {
            for (int g = 0; g < 12; g++) {
                far[f][g] = f == g ? 0 : BESIDE.get(f).contains(g) ? 1 : 99;
            }
        }
        for (int via = 0; via < 12; via++) {
            for (int f = 0; f < 12; f++) {
                for (int g = 0; g < 12; g++) {
                    far[f][g] = Math.min(far[f][g], far[f][via] + far[via][g]);
                }
            }
        }
        return far;
    }

    /** All rows of goals that keep those beside one another so, less those that turn "on" about. */
    private static List<int[]> allTurnings() {
        List<int[]> found = new ArrayList<>();
        extend(new int[12], 0, found);
        if (found.size() != 60) {
            throw new IllegalStateException("turnings: " + found.size());
        }
        return found;
    }

    private static void extend(int[] goals, int depth, List<int[]> found) {
        if (depth == 12) {
            if (keepsOn(goals)) {
                found.add(goals.clone());
            }
            return;
        }
        for (int goal = 0; goal < 12; goal++) {
            boolean fits = true;
            for (int f = 0; f < depth; f++) {
                fits &= FAR[f][depth] == FAR[goals[f]][goal];
            }
            if (fits) {
                goals[depth] = goal;
                extend(goals, depth + 1, found);
            }
        }
    }

    private static boolean keepsOn(int[] goals) {
        for (int f = 0; f < 12; f++) {
            for (int s = 0; s < 5; s++) {
                List<Integer> there = BESIDE.get(goals[f]);
                int one = there.indexOf(goals[BESIDE.get(f).get(s)]);
                int next = there.indexOf(goals[BESIDE.get(f).get((s + 1) % 5)]);
                if ((one + 1) % 5 != next) {
                    return false;
                }
            }
        }
        return true;
    }

    private static boolean no(int field) {
        return field < 0 || field > 11;
    }

    private static boolean noSide(int side) {
        return side < 0 || side > 4;
    }

    private static int[] turning(int a, int s) {
        for (int[] goals : TURNINGS) {
            if (goals[0] == a && goals[1] == BESIDE.get(a).get(s)) {
                return goals;
            }
        }
        throw new IllegalStateException();
    }

    private boolean open(int f, int g) {
        return FAR[f][g] == 1 && !walls.contains(Set.of(f, g));
    }

    int write(long bytes, int n) {
        if (n < 1 || n > 8) {
            return OUTSIDE;
        }
        if (text.length() + n > 200) {
            return FULL;
        }
        for (int i = 0; i < n; i++) {
            text.append((char) (bytes >>> 8 * i & 255));
        }
        return text.length();
    }

    int erase() {
        int had = text.length();
        text.setLength(0);
        return had;
    }

    private record Token(String word, int at) {
    }

    private List<Token> tokens() {
        List<Token> all = new ArrayList<>();
        Matcher matcher = Pattern.compile("[a-z]+|[0-9]+|[^ ]", Pattern.DOTALL).matcher(text);
        while (matcher.find()) {
            all.add(new Token(matcher.group(), matcher.start()));
        }
        all.add(new Token("", text.length()));
        return all;
    }

    /** The lines, each a word and its numbers; or the fault alone, as the only line's only entry. */
    private Object lines() {
        List<List<String>> lines = new ArrayList<>();
        List<Token> tokens = tokens();
        int at = 0;
        while (true) {
            List<String> line = new ArrayList<>();
            lines.add(line);
            Token word = tokens.get(at++);
            line.add(word.word());
            int numbers = KINDS.contains(word.word()) ? 1 : List.of("wall", "gate", "stand").contains(word.word()) ? 2 : 0;
            if (numbers == 0 && !word.word().equals("town")) {
                return word.at();
            }
            for (int i = 0; i < numbers; i++) {
                Token number = tokens.get(at++);
                int bound = word.word().equals("stand") && i == 1 ? 5 : 12;
                if (!number.word().matches("[0-9]{1,2}") || Integer.parseInt(number.word()) >= bound) {
                    return number.at();
                }
                line.add(number.word());
                boolean pair = word.word().equals("wall") || word.word().equals("gate");
                if (i == 1 && pair && FAR[number(line, 1)][number(line, 2)] != 1) {
                    return number.at();
                }
            }
            Token behind = tokens.get(at++);
            if (behind.word().isEmpty()) {
                return lines;
            }
            if (!behind.word().equals(";") || lines.size() == 12) {
                return behind.at();
            }
        }
    }

    private static int number(List<String> line, int i) {
        return Integer.parseInt(line.get(i));
    }

    int fault() {
        return lines() instanceof Integer fault ? fault : NONE;
    }

    @SuppressWarnings("unchecked")
    int town() {
        Object read = lines();
        if (read instanceof Integer) {
            return NOT;
        }
        List<List<String>> lines = (List<List<String>>) read;
        for (List<String> line : lines) {
            switch (line.get(0)) {
                case "town" -> {
                    toldKinds = new int[12];
                    toldWalker = new int[2];
                    walls.clear();
                }
                case "wall" -> walls.add(Set.of(number(line, 1), number(line, 2)));
                case "gate" -> walls.remove(Set.of(number(line, 1), number(line, 2)));
                case "stand" -> toldWalker = new int[] {number(line, 1), number(line, 2)};
                default -> toldKinds[number(line, 1)] = KINDS.indexOf(line.get(0));
            }
        }
        text.setLength(0);
        kinds = toldKinds.clone();
        walker = new int[] {toldWalker[0], toldWalker[1], 0};
        Arrays.fill(keptKinds, null);
        Arrays.fill(keptWalker, null);
        roundsNow = null;
        return lines.size();
    }

    int beside(int field, int side) {
        return no(field) || noSide(side) ? UNKNOWN : BESIDE.get(field).get(side);
    }

    int side(int field, int other) {
        return no(field) || no(other) ? UNKNOWN : BESIDE.get(field).indexOf(other);
    }

    int far(int field, int other) {
        return no(field) || no(other) ? UNKNOWN : FAR[field][other];
    }

    int other(int field) {
        if (no(field)) {
            return UNKNOWN;
        }
        int other = 0;
        while (FAR[field][other] != 3) {
            other++;
        }
        return other;
    }

    int goes(int a, int s, int field) {
        return no(a) || noSide(s) || no(field) ? UNKNOWN : turning(a, s)[field];
    }

    int field(int field, int what) {
        if (no(field)) {
            return UNKNOWN;
        }
        int sides = 0;
        int opens = 0;
        for (int s = 0; s < 5; s++) {
            int next = BESIDE.get(field).get(s);
            if (open(field, next)) {
                opens += 1 << next;
            } else {
                sides += 1 << s;
            }
        }
        return what == 0 ? kinds[field] : what == 1 ? sides : what == 2 ? tax(field) : what == 3 ? opens : OUTSIDE;
    }

    private int tax(int field) {
        int wheat = 0;
        int wells = 0;
        for (int next = 0; next < 12; next++) {
            if (open(field, next)) {
                wheat += kinds[next] == 1 ? 1 : 0;
                wells += kinds[next] == 3 ? 1 : 0;
            }
        }
        return new int[] {0, 2 + wells, wheat > 3 ? 0 : 3 - wheat, 1}[kinds[field]];
    }

    int as(int field, int kind) {
        if (no(field)) {
            return UNKNOWN;
        }
        if (kind < 0 || kind > 4) {
            return OUTSIDE;
        }
        List<Set<Integer>> such = List.of(Set.of(0), Set.of(0, 1, 2), Set.of(0, 1, 3), Set.of(0, 4));
        return such.get(kinds[field]).contains(kind) ? tax(field) : NOT;
    }

    int rotate(int a, int s) {
        if (no(a) || noSide(s)) {
            return UNKNOWN;
        }
        int[] then = turned(kinds, turning(a, s));
        int changed = 0;
        for (int f = 0; f < 12; f++) {
            changed += then[f] != kinds[f] ? 1 : 0;
        }
        kinds = then;
        return changed;
    }

    private static int[] turned(int[] kinds, int[] goals) {
        int[] then = new int[12];
        for (int f = 0; f < 12; f++) {
            then[goals[f]] = kinds[f];
        }
        return then;
    }

    /** Where one is behind a step, and by which side; null at a wall. */
    private int[] stepped(int field, int side, int turn) {
        int next = BESIDE.get(field).get((side + turn) % 5);
        return open(field, next) ? new int[] {next, BESIDE.get(next).indexOf(field)} : null;
    }

    int step(int turn) {
        if (noSide(turn)) {
            return OUTSIDE;
        }
        int[] then = stepped(walker[0], walker[1], turn);
        if (then == null) {
            return NOT;
        }
        walker = new int[] {then[0], then[1], walker[2] + 1};
        return walker[0];
    }

    int walker(int what) {
        return what < 0 || what > 2 ? OUTSIDE : walker[what];
    }

    int keep(int k) {
        if (k < 0 || k > 1) {
            return UNKNOWN;
        }
        keptKinds[k] = kinds.clone();
        keptWalker[k] = walker.clone();
        return walker[2];
    }

    int back(int k) {
        if (k < 0 || k > 1) {
            return UNKNOWN;
        }
        if (keptKinds[k] == null) {
            return NOT;
        }
        kinds = keptKinds[k].clone();
        walker = keptWalker[k].clone();
        return walker[2];
    }

    int home(int turn) {
        if (noSide(turn)) {
            return OUTSIDE;
        }
        int[] at = {walker[0], walker[1]};
        int steps = 0;
        do {
            at = stepped(at[0], at[1], turn);
            steps++;
        } while (at != null && (at[0] != walker[0] || at[1] != walker[1]));
        return at == null ? NONE : steps;
    }

    private int images(int[] from) {
        int found = 0;
        for (int[] goals : TURNINGS) {
            found += Arrays.equals(turned(from, goals), kinds) ? 1 : 0;
        }
        return found;
    }

    int alike() {
        return images(kinds);
    }

    int like(int k) {
        return k < 0 || k > 1 ? UNKNOWN : keptKinds[k] == null ? NOT : images(keptKinds[k]);
    }

    /** By the order of the turning, of which the ball has 1, 2, 3 and 5. */
    private static long ways(int[] goals, int k) {
        int[] row = goals.clone();
        int order = 1;
        while (!Arrays.equals(row, turning(0, 0))) {
            int[] next = new int[12];
            for (int f = 0; f < 12; f++) {
                next[f] = goals[row[f]];
            }
            row = next;
            order++;
        }
        int rings = new int[] {0, 12, 6, 4, 0, 4}[order];
        return BigInteger.valueOf(k).pow(rings).longValueExact();
    }

    long fixed(int a, int s, int k) {
        return no(a) || noSide(s) ? UNKNOWN : k < 1 || k > 8 ? OUTSIDE : ways(turning(a, s), k);
    }

    long unlike(int k) {
        if (k < 1 || k > 8) {
            return OUTSIDE;
        }
        long all = 0;
        for (int[] goals : TURNINGS) {
            all += ways(goals, k);
        }
        return all / 60;
    }

    int wardens(int what) {
        if (what < 0 || what > 2) {
            return OUTSIDE;
        }
        for (int size = 1; size <= 12; size++) {
            TreeSet<Integer> sets = new TreeSet<>();
            for (int set = 0; set < 4096; set++) {
                if (Integer.bitCount(set) == size && warded(set)) {
                    sets.add(set);
                }
            }
            if (!sets.isEmpty()) {
                return what == 0 ? size : what == 1 ? sets.first() : sets.size();
            }
        }
        return what == 2 ? 0 : NONE;
    }

    private boolean warded(int set) {
        for (int f = 0; f < 12; f++) {
            boolean has = false;
            for (int g : BESIDE.get(f)) {
                has |= (set >> g & 1) == 1 && open(f, g);
            }
            if (!has) {
                return false;
            }
        }
        return true;
    }

    int inside(int field) {
        return no(field) ? UNKNOWN : reached(field);
    }

    private int reached(int field) {
        List<Integer> all = new ArrayList<>(List.of(field));
        int set = 1 << field;
        for (int i = 0; i < all.size(); i++) {
            for (int next : BESIDE.get(all.get(i))) {
                if (open(all.get(i), next) && !all.contains(next)) {
                    all.add(next);
                    set += 1 << next;
                }
            }
        }
        return set;
    }

    int rounds(int i) {
        if (i < -1 || i > 11) {
            return OUTSIDE;
        }
        if (roundsNow == null) {
            roundsNow = new ArrayList<>();
            goRound(new ArrayList<>(List.of(0)));
            roundsNow.sort(Arrays::compare);
        }
        return i == NONE ? roundsNow.size() : roundsNow.isEmpty() ? NONE : roundsNow.get(0)[i];
    }

    private void goRound(List<Integer> row) {
        int last = row.get(row.size() - 1);
        if (row.size() == 12) {
            if (open(last, 0) && row.get(1) < last) {
                roundsNow.add(row.stream().mapToInt(f -> f).toArray());
            }
            return;
        }
        for (int next : BESIDE.get(last)) {
            if (open(last, next) && !row.contains(next)) {
                row.add(next);
                goRound(row);
                row.remove(row.size() - 1);
            }
        }
    }

    long walks(int from, int to, int n) {
        if (no(from) || no(to)) {
            return UNKNOWN;
        }
        if (n < 0 || n > 20) {
            return OUTSIDE;
        }
        long[] ways = new long[12];
        ways[to] = 1;
        for (int step = 0; step < n; step++) {
            long[] more = new long[12];
            for (int f = 0; f < 12; f++) {
                for (int g = 0; g < 12; g++) {
                    more[f] += open(f, g) ? ways[g] : 0;
                }
            }
            ways = more;
        }
        return ways[from];
    }

    long odds(int from, int to, int n, int part) {
        if (no(from) || no(to)) {
            return UNKNOWN;
        }
        if (n < 0 || n > 8 || part < 0 || part > 1) {
            return OUTSIDE;
        }
        return oddsOf(from, n)[to][part].longValueExact();
    }

    /** The odds as fractions in lowest terms, behind each step. */
    private BigInteger[][] oddsOf(int from, int n) {
        BigInteger[][] odds = nowhere();
        odds[from] = new BigInteger[] {BigInteger.ONE, BigInteger.ONE};
        for (int step = 0; step < n; step++) {
            BigInteger[][] then = nowhere();
            for (int f = 0; f < 12; f++) {
                List<Integer> goals = new ArrayList<>();
                for (int g : BESIDE.get(f)) {
                    if (open(f, g)) {
                        goals.add(g);
                    }
                }
                if (goals.isEmpty()) {
                    goals.add(f);
                }
                for (int g : goals) {
                    BigInteger below = odds[f][1].multiply(BigInteger.valueOf(goals.size()));
                    then[g] = sum(then[g], new BigInteger[] {odds[f][0], below});
                }
            }
            odds = then;
        }
        return odds;
    }

    private static BigInteger[][] nowhere() {
        BigInteger[][] odds = new BigInteger[12][];
        for (int f = 0; f < 12; f++) {
            odds[f] = new BigInteger[] {BigInteger.ZERO, BigInteger.ONE};
        }
        return odds;
    }

    private static BigInteger[] sum(BigInteger[] one, BigInteger[] other) {
        BigInteger above = one[0].multiply(other[1]).add(other[0].multiply(one[1]));
        BigInteger below = one[1].multiply(other[1]);
        BigInteger common = above.gcd(below);
        return new BigInteger[] {above.divide(common), below.divide(common)};
    }

    int count(int what) {
        int found = 0;
        Set<Integer> insides = new HashSet<>();
        int taxes = 0;
        for (int f = 0; f < 12; f++) {
            found += kinds[f] == what ? 1 : 0;
            insides.add(reached(f));
            taxes += tax(f);
        }
        return switch (what) {
            case 0, 1, 2, 3 -> found;
            case 4 -> walls.size();
            case 5 -> taxes;
            case 6 -> insides.size();
            case 7 -> text.length();
            default -> OUTSIDE;
        };
    }
}

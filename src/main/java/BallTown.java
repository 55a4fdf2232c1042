/** A town on a ball of twelve fields. What each call answers stands in shared/DOC.md. */
public final class BallTown {
    public static final int NONE = -1, UNKNOWN = -2, OUTSIDE = -3, NOT = -4, FULL = -5;

    private static final int FIELDS = 12, SIDES = 5, TURNINGS = FIELDS * SIDES, ALL_FIELDS = (1 << FIELDS) - 1;

    /** The words of a text: those that tell a kind bear its number, so that a line's word is the kind it tells. */
    private static final int FALLOW = 0, WHEAT = 1, VINE = 2, WELL = 3, WALL = 4, GATE = 5, STAND = 6, TOWN = 7;

    private static final int MOST_WRITE = 8, MOST_STEPS = 9999, MOST_COLOURS = 8, MOST_WALK = 20, MOST_ODDS = 8;

    private final Text text = new Text();
    private final Turnings turnings = new Turnings();
    private final Walls walls = new Walls();
    private final Shares shares = new Shares();
    private final Scene told = new Scene();
    private final Scene now = new Scene();
    private final Scene firstKept = new Scene();
    private final Scene secondKept = new Scene();

    public BallTown() {
    }

    // ---- what is told

    public int write(long bytes, int n) {
        if (n < 1 || n > MOST_WRITE) {
            return OUTSIDE;
        }
        if (!text.hasRoomFor(n)) {
            return FULL;
        }
        return text.append(bytes, n);
    }

    public int erase() {
        return text.clear();
    }

    public int fault() {
        return text.read();
    }

    public int town() {
        if (text.read() != NONE) {
            return NOT;
        }
        int lines = text.lineCount();
        for (int line = 0; line < lines; line++) {
            doLine(text.wordOf(line), text.firstOf(line), text.secondOf(line));
        }
        text.clear();
        now.take(told);
        firstKept.forget();
        secondKept.forget();
        return lines;
    }

    private void doLine(int word, int first, int second) {
        switch (word) {
            case TOWN:
                told.begin();
                walls.clear();
                break;
            case WALL:
                walls.close(first, second);
                break;
            case GATE:
                walls.open(first, second);
                break;
            case STAND:
                told.stand(first, second);
                break;
            default:
                told.plant(first, word);
                break;
        }
    }

    // ---- the ball

    public int beside(int field, int side) {
        return Ball.across(field, side);
    }

    public int side(int field, int other) {
        if (!Ball.isField(field) || !Ball.isField(other)) {
            return UNKNOWN;
        }
        return Ball.sideTo(field, other);
    }

    public int far(int field, int other) {
        if (!Ball.isField(field) || !Ball.isField(other)) {
            return UNKNOWN;
        }
        return Ball.distance(field, other);
    }

    public int other(int field) {
        if (!Ball.isField(field)) {
            return UNKNOWN;
        }
        return Ball.opposite(field);
    }

    public int goes(int a, int s, int field) {
        if (!Ball.isField(a) || !Ball.isSide(s) || !Ball.isField(field)) {
            return UNKNOWN;
        }
        return turnings.goal(Turnings.number(a, s), field);
    }

    // ---- the town

    public int field(int field, int what) {
        if (!Ball.isField(field)) {
            return UNKNOWN;
        }
        switch (what) {
            case 0:
                return now.kindOf(field);
            case 1:
                return walls.sidesClosed(field);
            case 2:
                return taxOf(field);
            case 3:
                return walls.openTo(field);
            default:
                return OUTSIDE;
        }
    }

    public int as(int field, int kind) {
        if (!Ball.isField(field)) {
            return UNKNOWN;
        }
        if (kind < 0 || kind > 4) {
            return OUTSIDE;
        }
        return isSuch(now.kindOf(field), kind) ? taxOf(field) : NOT;
    }

    /** The order of kinds over one another counts apart from the kinds of fields: 0 field, 1 crop, 2 wheat, 3 vine, 4 well. */
    private static boolean isSuch(int kind, int taken) {
        switch (taken) {
            case 0:
                return true;
            case 1:
                return kind == WHEAT || kind == VINE;
            case 2:
                return kind == WHEAT;
            case 3:
                return kind == VINE;
            case 4:
                return kind == WELL;
            default:
                return false;
        }
    }

    private int taxOf(int field) {
        switch (now.kindOf(field)) {
            case WHEAT:
                return 2 + openOfKind(field, WELL);
            case VINE:
                return Math.max(0, 3 - openOfKind(field, WHEAT));
            case WELL:
                return 1;
            default:
                return 0;
        }
    }

    private int openOfKind(int field, int kind) {
        return Integer.bitCount(walls.openTo(field) & now.allOfKind(kind));
    }

    public int rotate(int a, int s) {
        if (!Ball.isField(a) || !Ball.isSide(s)) {
            return UNKNOWN;
        }
        return now.turn(turnings, Turnings.number(a, s));
    }

    public int step(int turn) {
        if (!Ball.isSide(turn)) {
            return OUTSIDE;
        }
        int left = now.place();
        int next = walls.through(left, Ball.on(now.entry(), turn));
        if (next == NONE) {
            return NOT;
        }
        if (now.steps() >= MOST_STEPS) {
            return FULL;
        }
        now.move(next, Ball.sideTo(next, left));
        return next;
    }

    public int walker(int what) {
        switch (what) {
            case 0:
                return now.place();
            case 1:
                return now.entry();
            case 2:
                return now.steps();
            default:
                return OUTSIDE;
        }
    }

    public int keep(int k) {
        if (k != 0 && k != 1) {
            return UNKNOWN;
        }
        keptAt(k).take(now);
        return now.steps();
    }

    public int back(int k) {
        if (k != 0 && k != 1) {
            return UNKNOWN;
        }
        if (!keptAt(k).isTaken()) {
            return NOT;
        }
        now.take(keptAt(k));
        return now.steps();
    }

    private Scene keptAt(int k) {
        return k == 0 ? firstKept : secondKept;
    }

    // ---- foretold

    public int home(int turn) {
        if (!Ball.isSide(turn)) {
            return OUTSIDE;
        }
        int place = now.place();
        int entry = now.entry();
        // A step by one turn can be gone back, so that the way closes within as many steps as there are sides.
        for (int steps = 1; steps <= FIELDS * SIDES; steps++) {
            int next = walls.through(place, Ball.on(entry, turn));
            if (next == NONE) {
                return NONE;
            }
            entry = Ball.sideTo(next, place);
            place = next;
            if (place == now.place() && entry == now.entry()) {
                return steps;
            }
        }
        return NONE;
    }

    public int alike() {
        return turnings.bringing(now, now);
    }

    public int like(int k) {
        if (k != 0 && k != 1) {
            return UNKNOWN;
        }
        if (!keptAt(k).isTaken()) {
            return NOT;
        }
        return turnings.bringing(keptAt(k), now);
    }

    public long fixed(int a, int s, int k) {
        if (!Ball.isField(a) || !Ball.isSide(s)) {
            return UNKNOWN;
        }
        if (k < 1 || k > MOST_COLOURS) {
            return OUTSIDE;
        }
        return turnings.fixedWays(Turnings.number(a, s), k);
    }

    public long unlike(int k) {
        if (k < 1 || k > MOST_COLOURS) {
            return OUTSIDE;
        }
        return turnings.unlikeWays(k);
    }

    public int wardens(int what) {
        switch (what) {
            case 0:
                return walls.wardenCount();
            case 1:
                return walls.wardenSet();
            case 2:
                return walls.wardenSets();
            default:
                return OUTSIDE;
        }
    }

    public int inside(int field) {
        if (!Ball.isField(field)) {
            return UNKNOWN;
        }
        return walls.insideOf(field);
    }

    public int rounds(int i) {
        if (i == NONE) {
            return walls.roundCount();
        }
        if (!Ball.isField(i)) {
            return OUTSIDE;
        }
        return walls.inFirstRound(i);
    }

    public long walks(int from, int to, int n) {
        if (!Ball.isField(from) || !Ball.isField(to)) {
            return UNKNOWN;
        }
        if (n < 0 || n > MOST_WALK) {
            return OUTSIDE;
        }
        return shares.walkCount(walls, from, to, n);
    }

    public long odds(int from, int to, int n, int part) {
        if (!Ball.isField(from) || !Ball.isField(to)) {
            return UNKNOWN;
        }
        if (n < 0 || n > MOST_ODDS || part < 0 || part > 1) {
            return OUTSIDE;
        }
        return shares.oddsPart(walls, from, to, n, part);
    }

    public int count(int what) {
        switch (what) {
            case 0:
            case 1:
            case 2:
            case 3:
                return Integer.bitCount(now.allOfKind(what));
            case 4:
                return walls.wallCount();
            case 5:
                return taxOfAll();
            case 6:
                return walls.insideCount();
            case 7:
                return text.length();
            default:
                return OUTSIDE;
        }
    }

    private int taxOfAll() {
        int tax = 0;
        for (int field = 0; field < FIELDS; field++) {
            tax += taxOf(field);
        }
        return tax;
    }

    /** The ball as it is sewn, which no call changes. */
    private static final class Ball {
        private static final int[] SEWN = {
            1, 2, 3, 4, 5,
            0, 5, 10, 6, 2,
            0, 1, 6, 7, 3,
            0, 2, 7, 8, 4,
            0, 3, 8, 9, 5,
            0, 4, 9, 10, 1,
            1, 10, 11, 7, 2,
            2, 6, 11, 8, 3,
            3, 7, 11, 9, 4,
            4, 8, 11, 10, 5,
            5, 9, 11, 6, 1,
            10, 9, 8, 7, 6,
        };

        static boolean isField(int field) {
            return field >= 0 && field < FIELDS;
        }

        static boolean isSide(int side) {
            return side >= 0 && side < SIDES;
        }

        static boolean holds(int set, int field) {
            return isField(field) && (set >> field & 1) != 0;
        }

        /** The side that is so many on from one. */
        static int on(int side, int turn) {
            return Math.floorMod(side + turn, SIDES);
        }

        static int across(int field, int side) {
            if (!isField(field) || !isSide(side)) {
                return UNKNOWN;
            }
            return SEWN[field * SIDES + side];
        }

        static int sideTo(int field, int other) {
            for (int side = 0; side < SIDES; side++) {
                if (isField(other) && across(field, side) == other) {
                    return side;
                }
            }
            return NONE;
        }

        static int allBeside(int field) {
            int set = 0;
            for (int side = 0; side < SIDES && isField(field); side++) {
                set |= 1 << across(field, side);
            }
            return set;
        }

        static int distance(int field, int other) {
            int reached = 1 << field;
            for (int steps = 0; steps < FIELDS; steps++) {
                if (holds(reached, other)) {
                    return steps;
                }
                reached = withThoseBeside(reached);
            }
            return NONE;
        }

        private static int withThoseBeside(int set) {
            int wider = set;
            for (int field = 0; field < FIELDS; field++) {
                if (holds(set, field)) {
                    wider |= allBeside(field);
                }
            }
            return wider;
        }

        static int opposite(int field) {
            for (int other = 0; other < FIELDS; other++) {
                if (distance(field, other) == 3) {
                    return other;
                }
            }
            return NONE;
        }
    }

    /** The sixty turnings of the ball, by numbers 0 .. 59. */
    private static final class Turnings {
        private final int[] goals = new int[TURNINGS * FIELDS];
        /** To which side of its goal side 0 of each field goes, by the turning that is being laid. */
        private final int[] ahead = new int[FIELDS];

        Turnings() {
            for (int a = 0; a < FIELDS; a++) {
                for (int s = 0; s < SIDES; s++) {
                    lay(a, s);
                }
            }
        }

        static int number(int a, int s) {
            return a * SIDES + s;
        }

        /** Side 0 of each field but 0 is at a lower one, which has its goal already: so one goal leads to the next. */
        private void lay(int a, int s) {
            int turning = number(a, s);
            setGoal(turning, 0, a);
            setAhead(0, s);
            for (int field = 1; field < ahead.length; field++) {
                int lower = Ball.across(field, 0);
                if (lower >= 0 && lower < field) {
                    int lowerGoal = goal(turning, lower);
                    int goal = Ball.across(lowerGoal, Ball.on(ahead[lower], Ball.sideTo(lower, field)));
                    setGoal(turning, field, goal);
                    setAhead(field, Ball.sideTo(goal, lowerGoal));
                }
            }
        }

        private void setGoal(int turning, int field, int goal) {
            if (isTurning(turning) && Ball.isField(field)) {
                goals[turning * FIELDS + field] = goal;
            }
        }

        private void setAhead(int field, int side) {
            if (field >= 0 && field < ahead.length) {
                ahead[field] = side;
            }
        }

        private static boolean isTurning(int turning) {
            return turning >= 0 && turning < TURNINGS;
        }

        int goal(int turning, int field) {
            if (!isTurning(turning) || !Ball.isField(field)) {
                return UNKNOWN;
            }
            return goals[turning * FIELDS + field];
        }

        /** How many turnings bring the kinds of one scene to those of another. */
        int bringing(Scene from, Scene to) {
            int found = 0;
            for (int turning = 0; turning < TURNINGS; turning++) {
                if (brings(turning, from, to)) {
                    found++;
                }
            }
            return found;
        }

        private boolean brings(int turning, Scene from, Scene to) {
            for (int field = 0; field < FIELDS; field++) {
                if (to.kindOf(goal(turning, field)) != from.kindOf(field)) {
                    return false;
                }
            }
            return true;
        }

        /** A way is left as it is if all fields that the turning brings to one another are of one kind. */
        long fixedWays(int turning, int k) {
            long ways = 1;
            int seen = 0;
            for (int field = 0; field < FIELDS; field++) {
                if (!Ball.holds(seen, field)) {
                    ways *= k;
                    seen |= ringOf(turning, field);
                }
            }
            return ways;
        }

        private int ringOf(int turning, int field) {
            int ring = 0;
            int at = field;
            for (int steps = 0; steps < FIELDS && Ball.isField(at); steps++) {
                ring |= 1 << at;
                at = goal(turning, at);
            }
            return ring;
        }

        /** By Burnside's count: as many unlike ways as a turning fixes on the average. */
        long unlikeWays(int k) {
            long fixed = 0;
            for (int turning = 0; turning < TURNINGS; turning++) {
                fixed += fixedWays(turning, k);
            }
            return fixed / TURNINGS;
        }
    }

    /** The kinds of all fields and the walker: what texts tell, what is now, what is kept. */
    private static final class Scene {
        private final int[] kinds = new int[FIELDS];
        private final int[] turned = new int[FIELDS];
        private int place;
        private int entry;
        private int steps;
        private boolean taken;

        void begin() {
            for (int field = 0; field < kinds.length; field++) {
                kinds[field] = FALLOW;
            }
            stand(0, 0);
        }

        void take(Scene from) {
            for (int field = 0; field < kinds.length; field++) {
                kinds[field] = from.kindOf(field);
            }
            place = from.place;
            entry = from.entry;
            steps = from.steps;
            taken = true;
        }

        void forget() {
            taken = false;
        }

        boolean isTaken() {
            return taken;
        }

        int kindOf(int field) {
            return field >= 0 && field < kinds.length ? kinds[field] : FALLOW;
        }

        int allOfKind(int kind) {
            int set = 0;
            for (int field = 0; field < kinds.length; field++) {
                if (kinds[field] == kind) {
                    set |= 1 << field;
                }
            }
            return set;
        }

        void plant(int field, int kind) {
            if (field >= 0 && field < kinds.length) {
                kinds[field] = kind;
            }
        }

        /** Turns the kinds and tells how many fields are of another kind then. */
        int turn(Turnings turnings, int turning) {
            for (int field = 0; field < FIELDS; field++) {
                int goal = turnings.goal(turning, field);
                if (goal >= 0 && goal < turned.length) {
                    turned[goal] = kindOf(field);
                }
            }
            int changed = 0;
            for (int field = 0; field < turned.length; field++) {
                if (turned[field] != kindOf(field)) {
                    changed++;
                }
                plant(field, turned[field]);
            }
            return changed;
        }

        void stand(int field, int side) {
            place = field;
            entry = side;
        }

        void move(int field, int side) {
            stand(field, side);
            steps++;
        }

        int place() {
            return place;
        }

        int entry() {
            return entry;
        }

        int steps() {
            return steps;
        }
    }

    /** Which fields are open to one another, and what follows from that alone. */
    private static final class Walls {
        private final int[] open = new int[FIELDS];
        private final int[] row = new int[FIELDS];
        private final int[] firstRound = new int[FIELDS];
        private int roundCount;
        private int wardenCount;
        private int wardenSet;
        private int wardenSets;
        // Rounds and wardens are dear to find: they are found when asked for, and stay until a wall changes.
        private boolean roundsFound;
        private boolean wardensFound;

        Walls() {
            clear();
        }

        void clear() {
            for (int field = 0; field < open.length; field++) {
                open[field] = Ball.allBeside(field);
            }
            forgetFound();
        }

        private void forgetFound() {
            roundsFound = false;
            wardensFound = false;
        }

        int openTo(int field) {
            return field >= 0 && field < open.length ? open[field] : 0;
        }

        void close(int field, int other) {
            if (Ball.sideTo(field, other) != NONE) {
                setOpen(field, openTo(field) & ~(1 << other));
                setOpen(other, openTo(other) & ~(1 << field));
            }
        }

        void open(int field, int other) {
            if (Ball.sideTo(field, other) != NONE) {
                setOpen(field, openTo(field) | 1 << other);
                setOpen(other, openTo(other) | 1 << field);
            }
        }

        private void setOpen(int field, int set) {
            if (field >= 0 && field < open.length) {
                open[field] = set;
            }
            forgetFound();
        }

        /** The field at a side, or NONE where a wall is. */
        int through(int field, int side) {
            int next = Ball.across(field, side);
            return Ball.holds(openTo(field), next) ? next : NONE;
        }

        int sidesClosed(int field) {
            int sides = 0;
            for (int side = 0; side < SIDES; side++) {
                if (through(field, side) == NONE) {
                    sides |= 1 << side;
                }
            }
            return sides;
        }

        int wallCount() {
            int ends = 0;
            for (int field = 0; field < FIELDS; field++) {
                ends += Integer.bitCount(sidesClosed(field));
            }
            return ends / 2;
        }

        int insideOf(int field) {
            int inside = 1 << field;
            // No way out of a field to another needs more steps than there are other fields.
            for (int steps = 1; steps < FIELDS; steps++) {
                inside |= openToAny(inside);
            }
            return inside;
        }

        private int openToAny(int set) {
            int found = 0;
            for (int field = 0; field < FIELDS; field++) {
                if (Ball.holds(set, field)) {
                    found |= openTo(field);
                }
            }
            return found;
        }

        int insideCount() {
            int seen = 0;
            int found = 0;
            for (int field = 0; field < FIELDS; field++) {
                if (!Ball.holds(seen, field)) {
                    found++;
                    seen |= insideOf(field);
                }
            }
            return found;
        }

        int wardenCount() {
            findWardens();
            return wardenCount;
        }

        int wardenSet() {
            findWardens();
            return wardenSet;
        }

        int wardenSets() {
            findWardens();
            return wardenSets;
        }

        private void findWardens() {
            if (wardensFound) {
                return;
            }
            wardenCount = NONE;
            wardenSet = NONE;
            wardenSets = 0;
            for (int set = 0; set <= ALL_FIELDS; set++) {
                int size = Integer.bitCount(set);
                boolean fewer = wardenCount == NONE || size < wardenCount;
                if ((fewer || size == wardenCount) && wardsAll(set)) {
                    if (fewer) {
                        wardenCount = size;
                        wardenSet = set;
                        wardenSets = 0;
                    }
                    wardenSets++;
                }
            }
            wardensFound = true;
        }

        private boolean wardsAll(int set) {
            for (int field = 0; field < open.length; field++) {
                if ((open[field] & set) == 0) {
                    return false;
                }
            }
            return true;
        }

        int roundCount() {
            findRounds();
            return roundCount;
        }

        int inFirstRound(int i) {
            findRounds();
            return roundCount > 0 && i >= 0 && i < firstRound.length ? firstRound[i] : NONE;
        }

        private void findRounds() {
            if (roundsFound) {
                return;
            }
            roundCount = 0;
            putInRow(0, 0);
            for (int second = 1; second < FIELDS; second++) {
                if (Ball.holds(openTo(0), second)) {
                    putInRow(1, second);
                    int lasts = openTo(0) & -(2 << second);
                    goRound(this, 2, 1 | 1 << second, lasts);
                }
            }
            roundsFound = true;
        }

        /**
         * Tries, in their order, all fields that can stand behind those which the row has.
         * One of the lasts must be left for the end: without that test the search takes twice as long.
         */
        private static void goRound(Walls walls, int depth, int used, int lasts) {
            if (depth >= FIELDS) {
                walls.endRound(lasts);
                return;
            }
            if ((lasts & ~used) == 0) {
                return;
            }
            int next = walls.openTo(walls.inRow(depth - 1)) & ~used;
            for (int field = 1; field < FIELDS; field++) {
                if ((next >> field & 1) != 0) {
                    walls.putInRow(depth, field);
                    goRound(walls, depth + 1, used | 1 << field, lasts);
                }
            }
        }

        private void putInRow(int place, int field) {
            if (place >= 0 && place < row.length) {
                row[place] = field;
            }
        }

        private int inRow(int place) {
            return place >= 0 && place < row.length ? row[place] : NONE;
        }

        private void endRound(int lasts) {
            if (!Ball.holds(lasts, inRow(FIELDS - 1))) {
                return;
            }
            if (roundCount == 0) {
                for (int i = 0; i < firstRound.length && i < row.length; i++) {
                    firstRound[i] = row[i];
                }
            }
            roundCount++;
        }
    }

    /** What is spread over the fields, step by step, from the one where somebody sets out. */
    private static final class Shares {
        /** Each number of open fields, 1 .. 5, divides it, so that odds stay whole numbers of shares. */
        private static final int SHARES = 60;

        private final long[] here = new long[FIELDS];
        private final long[] then = new long[FIELDS];

        long walkCount(Walls walls, int from, int to, int n) {
            setOut(from);
            for (int step = 0; step < n; step++) {
                for (int field = 0; field < here.length; field++) {
                    giveAll(walls.openTo(field), here[field]);
                }
                arrive();
            }
            return hereAt(to);
        }

        long oddsPart(Walls walls, int from, int to, int n, int part) {
            long below = 1;
            setOut(from);
            for (int step = 0; step < n; step++) {
                for (int field = 0; field < here.length; field++) {
                    int open = walls.openTo(field);
                    int goals = open == 0 ? 1 << field : open;
                    giveAll(goals, here[field] * sharesOf(Integer.bitCount(goals)));
                }
                arrive();
                below *= SHARES;
            }
            long above = hereAt(to);
            long common = commonDivisor(above, below);
            if (common == 0) {
                return 0;
            }
            return part == 0 ? above / common : below / common;
        }

        private static int sharesOf(int goals) {
            return goals == 0 ? 0 : SHARES / goals;
        }

        private void setOut(int from) {
            for (int field = 0; field < here.length && field < then.length; field++) {
                here[field] = field == from ? 1 : 0;
                then[field] = 0;
            }
        }

        private void giveAll(int goals, long share) {
            for (int field = 0; field < then.length; field++) {
                if (Ball.holds(goals, field)) {
                    then[field] += share;
                }
            }
        }

        private void arrive() {
            for (int field = 0; field < here.length && field < then.length; field++) {
                here[field] = then[field];
                then[field] = 0;
            }
        }

        private long hereAt(int field) {
            return field >= 0 && field < here.length ? here[field] : 0;
        }

        private static long commonDivisor(long one, long other) {
            long greater = one;
            long less = other;
            // Euclid's rests halve with every second turn, so that longs need fewer than 200.
            for (int turn = 0; turn < 200 && less != 0; turn++) {
                long rest = greater % less;
                greater = less;
                less = rest;
            }
            return greater;
        }
    }

    /** The text and its lines, read to their first fault. */
    private static final class Text {
        private static final int MOST_BYTES = 200, MOST_LINES = 12, BLANK = 32, LINE_END = 59;
        private static final int LETTER = 0, DIGIT = 1, OTHER = 2;

        private final int[] signs = new int[MOST_BYTES];
        private int length;
        private int tokenStart;
        private int tokenEnd;

        private final int[] words = new int[MOST_LINES];
        private final int[] firsts = new int[MOST_LINES];
        private final int[] seconds = new int[MOST_LINES];
        private int lineCount;

        int length() {
            return length;
        }

        boolean hasRoomFor(int n) {
            return n <= signs.length - length;
        }

        int append(long bytes, int n) {
            for (int i = 0; i < n && length < signs.length; i++) {
                signs[length] = (int) (bytes >> 8 * i & 255);
                length++;
            }
            return length;
        }

        int clear() {
            int had = length;
            length = 0;
            return had;
        }

        int lineCount() {
            return lineCount;
        }

        int wordOf(int line) {
            return inLine(words, line);
        }

        int firstOf(int line) {
            return inLine(firsts, line);
        }

        int secondOf(int line) {
            return inLine(seconds, line);
        }

        private static int inLine(int[] column, int line) {
            return line >= 0 && line < column.length ? column[line] : NONE;
        }

        /** Reads all lines: the place of the first fault, or NONE. */
        int read() {
            lineCount = 0;
            tokenEnd = 0;
            for (int line = 0; line < MOST_LINES; line++) {
                if (!readLine(line)) {
                    return tokenStart;
                }
                lineCount = line + 1;
                nextToken();
                if (tokenStart == length) {
                    return NONE;
                }
                if (signAt(tokenStart) != LINE_END) {
                    return tokenStart;
                }
            }
            return tokenStart;
        }

        /** Reads a line as far as its last number; where it is false, the token read last is the fault. */
        private boolean readLine(int line) {
            nextToken();
            int word = wordHere();
            int first = 0;
            int second = 0;
            if (word == NONE) {
                return false;
            }
            if (word != TOWN) {
                first = nextNumber(FIELDS);
                if (first == NONE) {
                    return false;
                }
            }
            if (word == WALL || word == GATE) {
                second = nextNumber(FIELDS);
                if (Ball.sideTo(first, second) == NONE) {
                    return false;
                }
            }
            if (word == STAND) {
                second = nextNumber(SIDES);
                if (second == NONE) {
                    return false;
                }
            }
            setLine(line, word, first, second);
            return true;
        }

        private void setLine(int line, int word, int first, int second) {
            if (line >= 0 && line < words.length && line < firsts.length && line < seconds.length) {
                words[line] = word;
                firsts[line] = first;
                seconds[line] = second;
            }
        }

        /** At the end of the text the token is empty and begins there. */
        private void nextToken() {
            tokenStart = tokenEnd;
            while (tokenStart < length && signAt(tokenStart) == BLANK) {
                tokenStart++;
            }
            tokenEnd = tokenStart;
            if (tokenStart < length) {
                int sort = sortOf(signAt(tokenStart));
                tokenEnd++;
                while (tokenEnd < length && sort != OTHER && sortOf(signAt(tokenEnd)) == sort) {
                    tokenEnd++;
                }
            }
        }

        private int signAt(int place) {
            return place >= 0 && place < length && place < signs.length ? signs[place] : NONE;
        }

        private static int sortOf(int sign) {
            if (sign >= 'a' && sign <= 'z') {
                return LETTER;
            }
            return sign >= '0' && sign <= '9' ? DIGIT : OTHER;
        }

        private int wordHere() {
            if (spells("fallow")) {
                return FALLOW;
            }
            if (spells("wheat")) {
                return WHEAT;
            }
            if (spells("vine")) {
                return VINE;
            }
            if (spells("well")) {
                return WELL;
            }
            if (spells("wall")) {
                return WALL;
            }
            if (spells("gate")) {
                return GATE;
            }
            if (spells("stand")) {
                return STAND;
            }
            return spells("town") ? TOWN : NONE;
        }

        private boolean spells(String word) {
            if (tokenEnd - tokenStart != word.length()) {
                return false;
            }
            for (int i = 0; i < word.length(); i++) {
                if (signAt(tokenStart + i) != word.charAt(i)) {
                    return false;
                }
            }
            return true;
        }

        /** The number that the next token is, or NONE where it is none of 0 .. bound - 1 in 1 or 2 digits. */
        private int nextNumber(int bound) {
            nextToken();
            int digits = tokenEnd - tokenStart;
            if (digits < 1 || digits > 2 || sortOf(signAt(tokenStart)) != DIGIT) {
                return NONE;
            }
            int number = 0;
            for (int i = 0; i < digits; i++) {
                number = number * 10 + signAt(tokenStart + i) - '0';
            }
            return number < bound ? number : NONE;
        }
    }
}

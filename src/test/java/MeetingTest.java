/**
 * Runs of calls in which promises meet: a text done behind turned kinds, behind steps, behind something kept; what was
 * kept called back behind a change of walls; what is foretold asked again behind each of these; 512 calls on one object.
 */
public final class MeetingTest {
    private static final int MOST_CALLS = 512;
    private static final Checks checks = new Checks();

    public static void main(String[] args) {
        textBehindTurnedKinds();
        textBehindSteps();
        textBehindSomethingKept();
        keptBehindAChangeOfWalls();
        foretoldAgain();
        mostCallsOfAllSorts();
        mostCallsOfSteps();
        mostCallsOfWrites();
        mostCallsOfTheDearest();
        checks.end("MeetingTest");
    }

    /** "Behind them KINDS are as told by texts (what was TURNED ahead goes)"; "what earlier texts told stays" */
    private static void textBehindTurnedKinds() {
        new Run(checks, "a text behind turned kinds").all("""
            tell wheat 0;well 1;vine 2;wall 0 1 = 4
            field 0..5 0 = 1 3 2 0 0 0
            count 0..6 = 9 1 1 1 1 5 1
            alike = 1
            rotate 0 1 = 3
            field 0..5 0 = 1 0 3 2 0 0
            field 0..5 2 = 3 0 1 2 0 0
            count 0..6 = 9 1 1 1 1 6 1
            # a text that tells nothing of kinds
            tell stand 4 0 = 1
            field 0..5 0 = 1 3 2 0 0 0
            field 0..5 2 = 2 1 2 0 0 0
            # told the same again
            rotate 11 3 = 6
            field 0..11 0 = 0 0 0 0 0 0 2 3 0 0 0 1
            tell wheat 0 = 1
            field 0..11 0 = 1 3 2 0 0 0 0 0 0 0 0 0
            # a text tells of a field where a turned one is
            rotate 0 1 = 3
            field 3 0 = 2
            tell fallow 3 = 1
            field 0..5 0 = 1 3 2 0 0 0
            rotate 0 1 = 3
            tell well 3;fallow 1 = 2
            field 0..5 0 = 1 0 2 3 0 0
            rotate 0 1 = 3
            field 0..5 0 = 1 0 0 2 3 0
            # turned twice, then a text, then turned once
            rotate 3 3 = 4
            rotate 8 1 = 6
            tell gate 0 1 = 1
            field 0..11 0 = 1 0 2 3 0 0 0 0 0 0 0 0
            rotate 0 4 = 3
            field 0..11 0 = 1 2 3 0 0 0 0 0 0 0 0 0
            # a faulty text undoes nothing
            write vine = 4
            fault = 4
            town = -4
            field 0..5 0 = 1 2 3 0 0 0
            erase = 4
            field 0..5 0 = 1 2 3 0 0 0
            # town
            write town = 4
            field 0..5 0 = 1 2 3 0 0 0
            town = 1
            field 0..11 0 = 0 0 0 0 0 0 0 0 0 0 0 0
            rotate 5 2 = 0
            tell vine 7 = 1
            field 0..11 0 = 0 0 0 0 0 0 0 2 0 0 0 0
            """);
    }

    /** "the WALKER stands as told last, no STEPS have been" */
    private static void textBehindSteps() {
        new Run(checks, "a text behind steps").all("""
            step 2 = 3
            step 2 = 7
            walker 0..2 = 7 4 2
            tell wheat 3 = 1
            walker 0..2 = 0 0 0
            step 2 = 3
            walker 0..2 = 3 0 1
            tell stand 5 2 = 1
            walker 0..2 = 5 2 0
            step 1 = 10
            step 0 = 5
            step 4 = 9
            walker 0..2 = 9 4 3
            tell wall 5 9;wall 5 1 = 2
            walker 0..2 = 5 2 0
            step 0 = -4
            step 1 = 10
            step 4 = 1
            step 2 = 2
            home 0..4 = 2 3 5 -1 3
            walker 0..2 = 2 1 3
            write stand 5 = 7
            town = -4
            walker 0..2 = 2 1 3
            write  3;stand 6 1 = 19
            town = 2
            walker 0..2 = 6 1 0
            step 3 = 2
            tell stand 7 0;town = 2
            walker 0..2 = 0 0 0
            step 1 = 2
            tell town;stand 8 4 = 2
            walker 0..2 = 8 4 0
            step 0 = 4
            tell fallow 8 = 1
            walker 0..2 = 8 4 0
            """);
    }

    /** "nothing is kept"; "NOT: nothing was kept since the last text" */
    private static void textBehindSomethingKept() {
        new Run(checks, "a text behind something kept").all("""
            tell wheat 0;vine 3 = 2
            step 1 = 2
            keep 0 = 1
            rotate 0 2 = 2
            keep 1 = 1
            like 0..1 = 1 1
            write well 9 = 6
            back 0 = 1
            back 1 = 1
            count 7 = 6
            like 0 = 1
            town = 1
            back 0..1 = -4 -4
            like 0..1 = -4 -4
            field 0..11 0 = 1 0 0 2 0 0 0 0 0 3 0 0
            walker 0..2 = 0 0 0
            # kept anew at one k alone
            keep 1 = 0
            back 0 = -4
            like 0 = -4
            step 4 = 5
            rotate 9 0 = 5
            back 1 = 0
            field 0..11 0 = 1 0 0 2 0 0 0 0 0 3 0 0
            walker 0..2 = 0 0 0
            back 0 = -4
            # a faulty text leaves what is kept
            keep 0 = 0
            step 2 = 3
            write town; = 5
            town = -4
            like 0..1 = 1 1
            back 0 = 0
            erase = 5
            back 1 = 0
            # town
            tell town = 1
            back 0..1 = -4 -4
            like 0..1 = -4 -4
            keep 0 = 0
            like 0 = 60
            rotate 4 4 = 0
            back 0 = 0
            tell town = 1
            back 0 = -4
            """);
    }

    /** Walls change by texts alone, and behind a text nothing is kept; what is kept anew is not of walls. */
    private static void keptBehindAChangeOfWalls() {
        new Run(checks, "kept behind a change of walls").all("""
            tell wheat 0;well 2;stand 0 0 = 3
            step 1 = 2
            step 1 = 1
            keep 0 = 2
            walker 0..2 = 1 4 2
            field 0..2 2 = 3 0 1
            tell wall 0 2 = 1
            back 0..1 = -4 -4
            like 0 = -4
            field 0..2 2 = 2 0 1
            walker 0..2 = 0 0 0
            step 1 = -4
            step 2 = 3
            keep 0 = 1
            tell wall 0 3;gate 0 2 = 2
            back 0 = -4
            keep 1 = 0
            step 2 = -4
            step 1 = 2
            rotate 0 3 = 2
            field 0..5 2 = 3 0 0 0 0 1
            back 1 = 0
            field 0..5 2 = 3 0 1 0 0 0
            field 0..5 1 = 4 0 0 1 0 0
            walker 0..2 = 0 0 0
            back 0 = -4
            keep 0 = 0
            # the walls that were there as it was kept are there as it is called back
            step 1 = 2
            step 2 = 6
            tell gate 3 0 = 1
            like 0 = -4
            back 0 = -4
            step 2 = 3
            home 0..4 = 2 3 5 5 3
            keep 0 = 1
            home 0..4 = 2 3 5 5 3
            rotate 3 0 = 2
            step 3 = 8
            back 0 = 1
            home 0..4 = 2 3 5 5 3
            tell wall 3 7;wall 3 8;wall 3 4;wall 3 2 = 4
            back 0 = -4
            home 0..4 = 2 3 -1 5 3
            step 2 = 3
            keep 0 = 1
            home 0..4 = 2 -1 -1 -1 -1
            back 0 = 1
            walker 0..2 = 3 0 1
            """);
    }

    /** What was foretold is foretold anew wherever it has changed, and as before where it has not. */
    private static void foretoldAgain() {
        Run run = new Run(checks, "foretold again");
        foretoldOfTexts(run);
        foretoldOfTurnsAndSteps(run);
        foretoldOfTextsAgain(run);
        foretoldOfGates(run);
        checks.due("calls of a run", run.calls() <= MOST_CALLS ? 1 : 0, 1);
    }

    private static void foretoldOfTexts(Run run) {
        run.all("""
            # a new town
            home 0..4 = 2 3 5 5 3
            alike = 60
            like 0..1 = -4 -4
            wardens 0..2 = 4 83 135
            inside 0..2 = 4095 4095 4095
            rounds -1..4 = 1280 0 1 2 3 4
            walks 0 9 7 = 6448
            odds 0 9 6 0..1 = 1302 15625
            count 4..6 = 0 0 1
            # a text of all twelve lines, and another that leaves them
            tell wheat 0;wheat 1;wheat 2;well 3;well 5;well 6;vine 4;vine 7;vine 10;wall 0 1;wall 2 6;wall 4 8 = 12
            tell stand 4 3 = 1
            home 0..4 = 2 3 -1 5 -1
            alike = 3
            like 0..1 = -4 -4
            wardens 0..2 = 4 90 83
            inside 0..2 = 4095 4095 4095
            rounds -1..4 = 312 0 2 1 5 4
            walks 0 9 7 = 3132
            odds 0 9 6 0..1 = 1226997 12800000
            count 4..6 = 3 20 1
            """);
    }

    private static void foretoldOfTurnsAndSteps(Run run) {
        run.all("""
            # KINDS turned
            rotate 0 3 = 8
            home 0..4 = 2 3 -1 5 -1
            alike = 3
            like 0..1 = -4 -4
            wardens 0..2 = 4 90 83
            inside 0..2 = 4095 4095 4095
            rounds -1..4 = 312 0 2 1 5 4
            walks 0 9 7 = 3132
            odds 0 9 6 0..1 = 1226997 12800000
            count 4..6 = 3 21 1
            # something kept, and STEPS
            keep 0 = 0
            step 1 = 5
            step 2 = 10
            step 3 = 6
            home 0..4 = 2 3 5 -1 3
            alike = 3
            like 0..1 = 3 -4
            wardens 0..2 = 4 90 83
            inside 0..2 = 4095 4095 4095
            rounds -1..4 = 312 0 2 1 5 4
            walks 0 9 7 = 3132
            odds 0 9 6 0..1 = 1226997 12800000
            count 4..6 = 3 21 1
            # KINDS turned once more, kept at the other k
            rotate 8 2 = 12
            keep 1 = 3
            home 0..4 = 2 3 5 -1 3
            alike = 3
            like 0..1 = 3 3
            wardens 0..2 = 4 90 83
            inside 0..2 = 4095 4095 4095
            rounds -1..4 = 312 0 2 1 5 4
            walks 0 9 7 = 3132
            odds 0 9 6 0..1 = 1226997 12800000
            count 4..6 = 3 20 1
            # called back
            back 0 = 0
            home 0..4 = 2 3 -1 5 -1
            alike = 3
            like 0..1 = 3 3
            wardens 0..2 = 4 90 83
            inside 0..2 = 4095 4095 4095
            rounds -1..4 = 312 0 2 1 5 4
            walks 0 9 7 = 3132
            odds 0 9 6 0..1 = 1226997 12800000
            count 4..6 = 3 21 1
            """);
    }

    private static void foretoldOfTextsAgain(Run run) {
        run.all("""
            # a text with a FAULT
            write wall 3 2; = 9
            fault = 9
            town = -4
            home 0..4 = 2 3 -1 5 -1
            alike = 3
            like 0..1 = 3 3
            wardens 0..2 = 4 90 83
            inside 0..2 = 4095 4095 4095
            rounds -1..4 = 312 0 2 1 5 4
            walks 0 9 7 = 3132
            odds 0 9 6 0..1 = 1226997 12800000
            count 4..6 = 3 21 1
            # THE TEXT empty, and a text of KINDS alone
            erase = 9
            tell well 8 = 1
            home 0..4 = 2 3 -1 5 -1
            alike = 1
            like 0..1 = -4 -4
            wardens 0..2 = 4 90 83
            inside 0..2 = 4095 4095 4095
            rounds -1..4 = 312 0 2 1 5 4
            walks 0 9 7 = 3132
            odds 0 9 6 0..1 = 1226997 12800000
            count 4..6 = 3 21 1
            # a text of WALLS alone, behind TURNED KINDS and something kept
            step 4 = -4
            keep 1 = 0
            rotate 2 4 = 8
            tell wall 9 4;wall 9 5;wall 9 8;wall 9 10;wall 9 11 = 5
            back 1 = -4
            home 0..4 = -1 -1 -1 -1 -1
            alike = 1
            like 0..1 = -4 -4
            wardens 0..2 = -1 -1 0
            inside 0..2 = 3583 3583 3583
            rounds -1..4 = 0 -1 -1 -1 -1 -1
            walks 0 9 7 = 0
            odds 0 9 6 0..1 = 0 1
            count 4..6 = 8 21 2
            """);
    }

    private static void foretoldOfGates(Run run) {
        run.all("""
            # gates, STEPS, called back
            tell gate 9 8;gate 10 9 = 2
            step 1 = 5
            keep 0 = 1
            rotate 1 0 = 10
            back 0 = 1
            home 0..4 = 2 -1 -1 5 3
            alike = 1
            like 0..1 = 1 -4
            wardens 0..2 = 4 270 43
            inside 0..2 = 4095 4095 4095
            rounds -1..4 = 34 0 2 1 5 10
            walks 0 9 7 = 796
            odds 0 9 6 0..1 = 392297 11520000
            count 4..6 = 6 21 1
            # the told KIND undone
            tell fallow 8 = 1
            home 0..4 = -1 -1 -1 -1 -1
            alike = 3
            like 0..1 = -4 -4
            wardens 0..2 = 4 270 43
            inside 0..2 = 4095 4095 4095
            rounds -1..4 = 34 0 2 1 5 10
            walks 0 9 7 = 796
            odds 0 9 6 0..1 = 392297 11520000
            count 4..6 = 6 20 1
            # all as at first
            tell town = 1
            home 0..4 = 2 3 5 5 3
            alike = 60
            like 0..1 = -4 -4
            wardens 0..2 = 4 83 135
            inside 0..2 = 4095 4095 4095
            rounds -1..4 = 1280 0 1 2 3 4
            walks 0 9 7 = 6448
            odds 0 9 6 0..1 = 1302 15625
            count 4..6 = 0 0 1
            """);
    }

    /** A run of 64 calls that begins with all as at first answers so each time; eight of them are the most calls. */
    private static void mostCallsOfAllSorts() {
        Run run = new Run(checks, "most calls");
        for (int again = 0; again < 8; again++) {
            changes(run);
            asks(run);
        }
        checks.due("calls of a run", run.calls(), MOST_CALLS);
    }

    private static void changes(Run run) {
        run.all("""
            tell town;wheat 1;well 2;vine 6;wall 1 6;stand 3 0 = 6
            keep 0 = 0
            rotate 1 2 = 5
            step 2 = 7
            keep 1 = 1
            field 5 0 = 0
            field 6 2 = 1
            field 1 1 = 8
            as 6 3 = -4
            walker 0..2 = 7 4 1
            like 1 = 1
            home 3 = 5
            back 0 = 0
            field 2 2 = 1
            tell wall 3 2;well 11 = 2
            back 1 = -4
            like 0 = -4
            walker 0..2 = 3 0 0
            home 1 = -1
            step 1 = -4
            step 2 = 7
            """);
    }

    private static void asks(Run run) {
        run.all("""
            count 1..5 = 1 1 2 2 8
            keep 0 = 1
            rotate 11 4 = 6
            alike = 1
            wardens 1 = 85
            rounds 11 = 5
            inside 3 = 4095
            walks 2 3 4 = 32
            odds 2 3 4 0..1 = 157 2000
            back 0 = 1
            write well 7 = 6
            count 7 = 6
            fault = -1
            erase = 6
            fault = 0
            town = -4
            as 1 1 = 3
            walker 2 = 1
            far 5 6 = 2
            goes 3 1 9 = 5
            side 3 7 = 2
            other 4 = 6
            beside 7 3 = 8
            fixed 2 2 2 = 16
            unlike 3 = 9099
            keep 2 = -2
            """);
    }

    private static void mostCallsOfSteps() {
        Run run = new Run(checks, "most steps");
        for (int steps = 1; steps < MOST_CALLS; steps++) {
            run.all("step 1 = " + new int[] {0, 2, 1}[steps % 3]);
        }
        run.all("walker 2 = 511");
        checks.due("calls of a run", run.calls(), MOST_CALLS);
    }

    /** THE TEXT is full with the 25th, and each one behind it is refused. */
    private static void mostCallsOfWrites() {
        Run run = new Run(checks, "most writes");
        for (int write = 1; write < MOST_CALLS; write++) {
            run.all("write " + " ".repeat(8) + " = " + (write <= 25 ? 8 * write : BallTown.FULL));
        }
        run.all("count 7 = 200");
        checks.due("calls of a run", run.calls(), MOST_CALLS);
    }

    /** Each of the thirty pairs stands beside one another in 512 of the 1280 rounds, as all pairs are alike. */
    private static void mostCallsOfTheDearest() {
        Run run = new Run(checks, "most rounds");
        int due = 1280;
        for (int i = 0; run.calls() + 4 < MOST_CALLS; i++) {
            int[] pair = Sewn.pairs().get(i / 2 % 30);
            due = i % 2 == 0 ? 768 : 1280;
            run.all("tell " + (i % 2 == 0 ? "wall " : "gate ") + pair[0] + " " + pair[1] + " = 1", "rounds -1 = " + due);
        }
        while (run.calls() < MOST_CALLS) {
            run.all("rounds -1 = " + due);
        }
    }
}

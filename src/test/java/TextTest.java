/** Promises 2 to 5: the text, its faults, and what its lines do. */
public final class TextTest {
    private static final int NONE = -1, OUTSIDE = -3, NOT = -4, FULL = -5;
    private static final Checks checks = new Checks();

    public static void main(String[] args) {
        write();
        erase();
        faultless();
        faults();
        faultBytes();
        townRefused();
        linesInOrder();
        whatStays();
        whatGoes();
        checks.end("TextTest");
    }

    private static void write() {
        BallTown town = new BallTown();
        checks.due("write n 0", town.write(0, 0), OUTSIDE);
        checks.due("write n 9", town.write(0, 9), OUTSIDE);
        checks.due("write n -1", town.write(0, -1), OUTSIDE);
        checks.due("write n least", town.write(0, Integer.MIN_VALUE), OUTSIDE);
        checks.due("write n most", town.write(0, Integer.MAX_VALUE), OUTSIDE);
        checks.due("nothing written", town.count(7), 0);
        for (int i = 1; i <= 24; i++) {
            checks.due("write 8 bytes", town.write(Checks.packed("town    "), 8), 8 * i);
        }
        checks.due("write 7 bytes", town.write(Checks.packed("       "), 7), 199);
        checks.due("write 2 over 199", town.write(0, 2), FULL);
        checks.due("write 8 over 199", town.write(0, 8), FULL);
        checks.due("outside ahead of full", town.write(0, 9), OUTSIDE);
        checks.due("write the 200th", town.write(32, 1), 200);
        checks.due("write over 200", town.write(32, 1), FULL);
        checks.due("200 bytes", town.count(7), 200);
        checks.due("erase 200", town.erase(), 200);
        checks.due("write again", town.write(Checks.packed("town"), 4), 4);
        checks.due("done", town.town(), 1);
        byteOrder();
    }

    /** Bytes behind the n-th are not written; the sign of the long is a byte as the others. */
    private static void byteOrder() {
        BallTown town = new BallTown();
        checks.due("4 of 8 bytes", town.write(Checks.packed("townxxxx"), 4), 4);
        checks.due("no fault", town.fault(), NONE);
        town.erase();
        checks.due("8 bytes, the last 255", town.write(Checks.packed("town   ") | 255L << 56, 8), 8);
        checks.due("fault at the last", town.fault(), 7);
        town.erase();
        checks.due("low byte first", town.write('t' | 'o' << 8 | 'w' << 16 | (long) 'n' << 24, 4), 4);
        checks.due("no fault then", town.fault(), NONE);
    }

    private static void erase() {
        BallTown town = new BallTown();
        checks.due("erase nothing", town.erase(), 0);
        Checks.write(town, "wheat 0;wheat 1");
        checks.due("erase", town.erase(), 15);
        checks.due("erase again", town.erase(), 0);
        checks.due("length", town.count(7), 0);
        checks.due("nothing was told", town.count(1), 0);
        checks.due("fault of the empty text", town.fault(), 0);
    }

    private static void fault(String text, int want) {
        BallTown town = new BallTown();
        Checks.write(town, text);
        checks.due("fault() of '" + text + "'", town.fault(), want);
        checks.due("fault() again", town.fault(), want);
        checks.due("text stays", town.count(7), text.length());
        if (want != NONE) {
            checks.due("town() of '" + text + "'", town.town(), NOT);
            checks.due("text stays behind NOT", town.count(7), text.length());
        }
    }

    private static void faultless() {
        String[] texts = {
            "town", " town", "town ", "  town  ", "fallow 0", "wheat 11", "vine 09", "well 00", "wall 0 1", "gate 11 6",
            "stand 11 4", "stand 3 04", "wheat0", "wheat  0  ", "wall0 1", "wall 1 0;gate1 0", "town;town",
            "town ; town", " town;  wheat   1 ; wall  5   10 ", "wheat0;vine1;stand2 3;town", "gate 0 1;wall 0 1;wall 0 1",
            "town;town;town;town;town;town;town;town;town;town;town;town",
            "town;town;town;town;town;town;town;town;town;town;town;town   ",
        };
        for (String text : texts) {
            fault(text, NONE);
        }
    }

    private static void faults() {
        fault("", 0);
        fault("   ", 3);
        fault(";", 0);
        fault("town;", 5);
        fault("town; ", 6);
        fault("town;;town", 5);
        fault("  ;town", 2);
        fault("town 1", 5);
        fault("town1", 4);
        fault("town town", 5);
        fault("towns", 0);
        fault("tow", 0);
        fault("townwheat 0", 0);
        fault("townz", 0);
        fault("towna", 0);
        fault("atown", 0);
        fault("zown", 0);
        fault("tawn", 0);
        fault("towm", 0);
        fault("Town", 0);
        fault("toWn", 0);
        fault("wheat", 5);
        fault("wheat ", 6);
        fault("wheat;", 5);
        fault("wheat x", 6);
        fault("wheat 12", 6);
        fault("wheat 99", 6);
        fault("wheat 000", 6);
        fault("wheat 001", 6);
        fault("wheat 1234567890123456789012345", 6);
        fault("wheat -1", 6);
        fault("wheat 1 2", 8);
        fault("wheat 1x", 7);
        fault("wheat 1.", 7);
        fault("12", 0);
        fault("0 wheat", 0);
        fault("fallow", 6);
        fault("vine 20;town", 5);
        fault("well well", 5);
        fault("wall", 4);
        fault("wall 0", 6);
        fault("wall01", 6);
        fault("wall 0 6", 7);
        fault("wall 0 0", 7);
        fault("wall 0 11", 7);
        fault("wall 0 12", 7);
        fault("wall 12 0", 5);
        fault("wall 0 001", 7);
        fault("wall 0 1 2", 9);
        fault("wall 0 1 wall 0 1", 9);
        fault("wall 0;1", 6);
        fault("gate", 4);
        fault("gate 0 7", 7);
        fault("gate 0", 6);
        fault("gate 0 x", 7);
        fault("stand", 5);
        fault("stand 0", 7);
        fault("stand 0 5", 8);
        fault("stand 12 0", 6);
        fault("stand 0 00 1", 11);
        fault("stand 0 010", 8);
        fault("town;wheat 12;foo", 11);
        fault("town;town;town;town;town;town;town;town;town;town;town;town;", 59);
        fault("town;town;town;town;town;town;town;town;town;town;town;town ; town", 60);
        fault("town;town;town;town;town;town;town;town;town;town;town;town x", 60);
    }

    /** Every byte that is no blank and no ; is a fault behind a line; where it ends the token it is one inside it. */
    private static void faultBytes() {
        for (int sign = 0; sign < 256; sign++) {
            boolean stands = sign == ' ';
            fault("town " + (char) sign, stands ? NONE : sign == ';' ? 6 : 5);
            boolean digit = sign >= '0' && sign <= '9';
            int want = stands ? NONE : sign == ';' ? 9 : digit ? (sign > '1' ? 6 : NONE) : 7;
            fault("wheat 1" + (char) sign + (sign == ';' ? " " : ""), want);
        }
    }

    private static void townRefused() {
        BallTown town = new BallTown();
        checks.due("town() of nothing", town.town(), NOT);
        Checks.write(town, "wheat 3;stand 4 1");
        checks.due("town()", town.town(), 2);
        checks.due("empty then", town.count(7), 0);
        checks.due("empty is a fault", town.fault(), 0);
        town.step(0);
        town.keep(0);
        town.rotate(1, 1);
        Checks.write(town, "town;wheat 12");
        checks.due("refused", town.town(), NOT);
        checks.due("wheat stays turned", town.field(town.goes(1, 1, 3), 0), 1);
        checks.due("walker stays", town.walker(2), 1);
        checks.due("text stays", town.count(7), 13);
        checks.due("kept stays", town.back(0), 1);
        checks.due("wheat is back", town.field(3, 0), 1);
    }

    private static void linesInOrder() {
        BallTown town = new BallTown();
        checks.tell(town, "wheat 0;vine 0;well 1;town;vine 2;well 2;wall 0 1;gate 1 0;gate 3 2;wall 2 3;stand 5 1;stand 6 2");
        checks.due("0 is fallow", town.field(0, 0), 0);
        checks.due("1 is fallow", town.field(1, 0), 0);
        checks.due("2 is a well", town.field(2, 0), 3);
        checks.due("one wall", town.count(4), 1);
        checks.due("wall of 2", town.field(2, 1), 16);
        checks.due("wall of 3", town.field(3, 1), 2);
        checks.due("walker", town.walker(0), 6);
        checks.due("by side", town.walker(1), 2);
        checks.tell(town, "stand 1 1;town");
        checks.due("town stands him at 0", town.walker(0), 0);
        checks.due("by side 0", town.walker(1), 0);
        checks.due("no walls", town.count(4), 0);
        checks.due("all fallow", town.count(0), 12);
        checks.tell(town, "vine 7;fallow 7;vine 8");
        checks.due("fallow told", town.field(7, 0), 0);
        checks.due("vine told", town.field(8, 0), 2);
    }

    private static void whatStays() {
        BallTown town = new BallTown();
        checks.tell(town, "wheat 1;wall 3 4;stand 7 3");
        checks.tell(town, "vine 2");
        checks.due("wheat stays", town.field(1, 0), 1);
        checks.due("vine is new", town.field(2, 0), 2);
        checks.due("wall stays", town.count(4), 1);
        checks.due("walker stays", town.walker(0), 7);
        checks.due("his side stays", town.walker(1), 3);
        checks.tell(town, "wall 3 4;gate 0 1");
        checks.due("told again", town.count(4), 1);
        checks.tell(town, "gate 4 3");
        checks.due("gate", town.count(4), 0);
    }

    /** What was turned, walked and kept goes with the next text, also if it tells nothing of them. */
    private static void whatGoes() {
        BallTown town = new BallTown();
        checks.tell(town, "wheat 1;stand 7 3");
        checks.due("a step", town.step(1), 3);
        town.rotate(5, 2);
        town.keep(0);
        town.keep(1);
        checks.due("two turned", town.field(1, 0), 0);
        checks.tell(town, "wall 10 11");
        checks.due("as told", town.field(1, 0), 1);
        checks.due("one wheat", town.count(1), 1);
        checks.due("stands as told", town.walker(0), 7);
        checks.due("side as told", town.walker(1), 3);
        checks.due("no steps", town.walker(2), 0);
        checks.due("nothing kept at 0", town.back(0), NOT);
        checks.due("nothing kept at 1", town.back(1), NOT);
        checks.due("nothing like 0", town.like(0), NOT);
        town.rotate(5, 2);
        checks.tell(town, "well 1");
        checks.due("told, not turned", town.field(1, 0), 3);
        checks.due("no wheat", town.count(1), 0);
        town.step(0);
        town.rotate(2, 2);
        checks.tell(town, "town");
        checks.due("as at first", town.count(0), 12);
        checks.due("walker at first", town.walker(0) + town.walker(1) + town.walker(2), 0);
    }
}

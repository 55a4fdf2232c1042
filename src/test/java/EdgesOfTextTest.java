import java.util.ArrayList;
import java.util.List;
import java.util.Set;

/** The edges of promises 2 to 5. Each test is named by the document's words that it holds the class to. */
public final class EdgesOfTextTest {
    private static final int NONE = -1, OUTSIDE = -3, NOT = -4, FULL = -5;
    private static final List<String> OF_ONE = List.of("fallow", "wheat", "vine", "well");
    private static final List<String> OF_TWO = List.of("wall", "gate", "stand");
    private static final Set<String> WORDS = Set.of("town", "fallow", "wheat", "vine", "well", "wall", "gate", "stand");
    private static final int[] ODD_INTS = {Integer.MIN_VALUE, Integer.MAX_VALUE, 1 << 8, 1 << 16, -8};
    private static final Checks checks = new Checks();

    public static void main(String[] args) {
        nOfWrite();
        mostBytes();
        eachByte();
        bytesBehindN();
        erase();
        faultAtTheLength();
        faultAtTheTokensFirstByte();
        theFirstFault();
        oneToTwelveLines();
        noEndBehindTheTwelfth();
        numbersOfEachWord();
        boundsOfFields();
        boundsOfSides();
        oneOrTwoDigits();
        onlyThoseBeside();
        smallLettersAlone();
        digitsAlone();
        blanksAlone();
        blanksNeedNot();
        theWordsAlone();
        townOrNot();
        linesInOrder();
        whatEarlierTextsToldStays();
        townIsAllAsAtFirst();
        whatWasTurnedGoes();
        walkerStandsAsToldLast();
        nothingIsKept();
        refusedTextsUndoNothing();
        checks.end("EdgesOfTextTest");
    }

    /** "n (1 .. 8) bytes more of THE TEXT" .. "OUTSIDE" */
    private static void nOfWrite() {
        for (int n = -9; n <= 17; n++) {
            writeOf(n);
        }
        for (int n : ODD_INTS) {
            writeOf(n);
        }
    }

    private static void writeOf(int n) {
        BallTown town = new BallTown();
        boolean taken = n >= 1 && n <= 8;
        checks.due("write(.., " + n + ")", town.write(0x2020202020202020L, n), taken ? n : OUTSIDE);
        checks.due("bytes behind it", town.count(7), taken ? n : 0);
    }

    private static BallTown withBytes(int length) {
        BallTown town = new BallTown();
        Checks.write(town, " ".repeat(length));
        return town;
    }

    /** "a row of bytes, 200 at most" .. "FULL", and what is refused is not written in part. */
    private static void mostBytes() {
        for (int length = 190; length <= 200; length++) {
            for (int n = 1; n <= 8; n++) {
                BallTown town = withBytes(length);
                boolean taken = length + n <= 200;
                checks.due("write of " + n + " behind " + length, town.write(-1, n), taken ? length + n : FULL);
                checks.due("count(7) behind it", town.count(7), taken ? length + n : length);
                checks.due("fault behind it", town.fault(), length);
            }
            checks.due("OUTSIDE is ahead of FULL", withBytes(length).write(-1, 9), OUTSIDE);
            checks.due("OUTSIDE is ahead of FULL", withBytes(length).write(-1, 0), OUTSIDE);
        }
        BallTown full = withBytes(200);
        checks.due("erase of 200", full.erase(), 200);
        Checks.write(full, "x".repeat(200));
        checks.due("200 again", full.count(7), 200);
        checks.due("and no more", full.write(0, 1), FULL);
    }

    /** "byte i being bytes >> 8 i & 255": of fallow 0 each of the eight bytes is changed to every other one. */
    private static void eachByte() {
        for (int i = 0; i < 8; i++) {
            for (int sign = 0; sign < 256; sign++) {
                long bytes = Checks.packed("fallow 0") & ~(255L << 8 * i) | (long) sign << 8 * i;
                BallTown town = new BallTown();
                town.write(bytes, 8);
                checks.due("fallow 0, byte " + i + " " + sign, town.fault(), faultOfFallow(i, sign));
            }
        }
    }

    private static int faultOfFallow(int i, int sign) {
        boolean digit = sign >= '0' && sign <= '9';
        boolean letter = sign >= 'a' && sign <= 'z';
        if (i < 6) {
            boolean blankAhead = i == 0 && sign == ' ';
            return sign == "fallow".charAt(i) ? NONE : blankAhead ? 1 : 0;
        }
        if (i == 6) {
            return letter ? 0 : sign == ' ' || sign == '0' || sign == '1' ? NONE : 6;
        }
        return digit ? NONE : sign == ' ' ? 8 : 7;
    }

    /** "n .. bytes more": those behind the n-th are none of THE TEXT, also when more is written then. */
    private static void bytesBehindN() {
        for (int n = 1; n <= 7; n++) {
            BallTown town = new BallTown();
            long blanks = 0x2020202020202020L & (1L << 8 * n) - 1;
            checks.due("n " + n, town.write(blanks | -1L << 8 * n, n), n);
            checks.due("blanks alone", town.fault(), n);
            checks.due("town behind them", town.write(Checks.packed("town"), 4), n + 4);
            checks.due("no fault", town.fault(), NONE);
        }
        BallTown town = new BallTown();
        for (char sign : "wheat 11".toCharArray()) {
            town.write(sign | 0x7777777777777700L, 1);
        }
        checks.due("one by one", town.town(), 1);
        checks.due("wheat at 11", town.field(11, 0), 1);
    }

    /** "THE TEXT is empty: how many bytes it had." */
    private static void erase() {
        for (int length = 0; length <= 200; length++) {
            BallTown town = withBytes(length);
            checks.due("erase of " + length, town.erase(), length);
            checks.due("count(7) then", town.count(7), 0);
            checks.due("fault then", town.fault(), 0);
            checks.due("erase of none", town.erase(), 0);
        }
        BallTown town = new BallTown();
        Checks.write(town, "wheat 0;wheat 1");
        town.erase();
        Checks.write(town, "town");
        checks.due("nothing of the erased is read", town.town(), 1);
        checks.due("nor done", town.count(1), 0);
        Checks.write(town, "stand 3");
        town.erase();
        Checks.write(town, " 3");
        checks.due("nor read with what is behind", town.fault(), 1);
    }

    private static void fault(String text, int want) {
        BallTown town = new BallTown();
        Checks.write(town, text);
        checks.due("fault of '" + text + "'", town.fault(), want);
    }

    /** "or at the end, if it comes too soon" .. "The place of the FAULT (.., or the length)" */
    private static void faultAtTheLength() {
        for (int length = 0; length <= 200; length++) {
            fault(" ".repeat(length), length);
        }
        for (String open : new String[] {"wheat", "wall", "wall 3", "gate 3", "stand", "stand 3", "town;", "town;wheat", "town ; "}) {
            fault(open, open.length());
            fault(" " + open + "   ", open.length() + 4);
            fault(open + " ".repeat(200 - open.length()), 200);
            fault(" ".repeat(200 - open.length()) + open, 200);
        }
        fault(" ".repeat(196) + "town", NONE);
        fault(" ".repeat(195) + "town;", 200);
        fault(" ".repeat(193) + "wheat 1", NONE);
        fault(" ".repeat(192) + "wheat 11", NONE);
        fault("town" + " ".repeat(196), NONE);
    }

    /** "the byte with which the TOKEN begins" */
    private static void faultAtTheTokensFirstByte() {
        fault(" ".repeat(199) + "x", 199);
        fault(" ".repeat(100) + "x".repeat(100), 100);
        fault("wheat " + "1".repeat(194), 6);
        fault("wheat   123", 8);
        fault("wheat   12", 8);
        fault("wheat  abc", 7);
        fault("town  town", 6);
        fault("town  !!", 6);
        fault("!!town", 0);
        fault("wall  0  6", 9);
        fault("stand  0  5", 10);
        fault("town ; foo", 7);
    }

    /** "A FAULT is at the first TOKEN .. that cannot stand there" */
    private static void theFirstFault() {
        fault("wheat 12;wheat 12;foo", 6);
        fault("wall 12 12", 5);
        fault("wall 0 0 0", 7);
        fault("stand 12 5", 6);
        fault("foo 12", 0);
        fault("wheat 1;foo;bar;", 8);
        fault("town;".repeat(11) + "foo;town", 55);
        fault("foo;" + "town;".repeat(13), 0);
        fault("wheat 1 ! foo", 8);
    }

    /** "LINES with ; (59) between, 1 to 12", and how many there were. */
    private static void oneToTwelveLines() {
        for (int lines = 1; lines <= 14; lines++) {
            String text = "well " + (lines - 1) % 12;
            for (int line = lines - 1; line > 0; line--) {
                text = "vine " + (line - 1) % 12 + ";" + text;
            }
            BallTown town = new BallTown();
            Checks.write(town, text);
            checks.due("town of " + lines + " lines", town.town(), lines <= 12 ? lines : NOT);
            checks.due("the last one done", town.count(3), lines <= 12 ? 1 : 0);
            checks.due("and those ahead", town.count(2), lines <= 12 ? lines - 1 : 0);
        }
        fault("", 0);
        fault(";", 0);
        fault("town;;town", 5);
        fault("town; ;town", 6);
        for (int sign = 0; sign < 256; sign++) {
            boolean parts = sign == ';';
            fault("town " + (char) sign + " town", parts ? NONE : sign == ' ' ? 7 : 5);
        }
    }

    /** "behind the 12th no ; can stand" */
    private static void noEndBehindTheTwelfth() {
        String eleven = "town;".repeat(11);
        fault(eleven, 55);
        fault(eleven + "town", NONE);
        fault(eleven + "town ", NONE);
        fault(eleven + "town;", 59);
        fault(eleven + "town  ;", 61);
        fault(eleven + "town;town", 59);
        fault(eleven + "town;wheat 12", 59);
        fault(eleven + "town town", 60);
        fault(eleven + "wheat 12;", 61);
        fault(eleven + "stand 3 3;", 64);
        fault("town;".repeat(10) + "town;", 55);
    }

    /** "each is one of: town. fallow F. .. stand F S.": no number less, none more. */
    private static void numbersOfEachWord() {
        for (String word : WORDS) {
            int need = OF_TWO.contains(word) ? 2 : OF_ONE.contains(word) ? 1 : 0;
            String text = word;
            for (int numbers = 0; numbers <= 3; numbers++) {
                int more = word.length() + 1 + 2 * need;
                fault(text, numbers < need ? text.length() : numbers == need ? NONE : more);
                fault(text + ";town", numbers < need ? text.length() : numbers == need ? NONE : more);
                fault(text + " town", numbers <= need ? text.length() + 1 : more);
                fault(text + " -", numbers <= need ? text.length() + 1 : more);
                text = text + " " + numbers;
            }
        }
    }

    /** "FIELDS are 0 .. 11", in each place of a line: "a number out of its bounds" */
    private static void boundsOfFields() {
        for (int number = 0; number <= 99; number++) {
            boolean stands = number <= 11;
            for (String word : OF_ONE) {
                fault(word + " " + number, stands ? NONE : word.length() + 1);
                fault(word + number, stands ? NONE : word.length());
                fault(word + "0" + number, number <= 9 ? NONE : word.length());
            }
            fault("stand " + number + " 0", stands ? NONE : 6);
            for (String word : new String[] {"wall ", "gate "}) {
                int beside = stands ? Sewn.BALL[number][0] : 0;
                fault(word + number + " " + beside, stands ? NONE : 5);
                int place = word.length() + String.valueOf(beside).length() + 1;
                fault(word + beside + " " + number, stands ? NONE : place);
            }
        }
    }

    /** "SIDES 0 .. 4" of stand F S. */
    private static void boundsOfSides() {
        for (int number = 0; number <= 99; number++) {
            fault("stand 11 " + number, number <= 4 ? NONE : 9);
            fault("stand 11 0" + number, number <= 4 ? NONE : 9);
        }
        for (int side = 0; side < 5; side++) {
            BallTown town = Checks.townOf("stand 11 " + side);
            checks.due("its field", town.walker(0), 11);
            checks.due("its side", town.walker(1), side);
        }
    }

    /** "numbers of 1 or 2 digits" .. "(.., of more digits, also)" */
    private static void oneOrTwoDigits() {
        for (int number = 0; number <= 11; number++) {
            String one = String.valueOf(number);
            fault("vine " + one, NONE);
            fault("vine 0" + one, number <= 9 ? NONE : 5);
            fault("vine 00" + one, 5);
            fault("vine 000" + one, 5);
            BallTown town = Checks.townOf("vine " + (number <= 9 ? "0" : "") + one);
            checks.due("two digits tell " + number, town.field(number, 0), 2);
        }
        fault("wall 000 1", 5);
        fault("wall 0 001", 7);
        fault("stand 000 1", 6);
        fault("stand 0 001", 8);
        fault("stand 00 01", NONE);
        fault("gate 00 01", NONE);
        fault("vine 4294967296", 5);
        fault("vine 18446744073709551616", 5);
        fault("vine 110", 5);
    }

    /** "wall, gate: there is one, none, of two that are BESIDE (else a FAULT at G)" */
    private static void onlyThoseBeside() {
        for (int f = 0; f < 12; f++) {
            for (int g = 0; g < 12; g++) {
                int place = 5 + String.valueOf(f).length() + 1;
                fault("wall " + f + " " + g, Sewn.areBeside(f, g) ? NONE : place);
                fault("gate " + f + " " + g, Sewn.areBeside(f, g) ? NONE : place);
                if (Sewn.areBeside(f, g)) {
                    wallAndGate(f, g);
                }
            }
        }
    }

    private static void wallAndGate(int f, int g) {
        BallTown town = new BallTown();
        checks.tell(town, "gate " + g + " " + f);
        checks.due("a gate where no wall is", town.count(4), 0);
        for (int again = 0; again < 2; again++) {
            checks.tell(town, "wall " + f + " " + g);
            checks.due("one wall", town.count(4), 1);
            checks.due("a side of F", town.field(f, 1), 1 << Sewn.sideOf(f, g));
            checks.due("a side of G", town.field(g, 1), 1 << Sewn.sideOf(g, f));
        }
        checks.tell(town, "wall " + g + " " + f);
        checks.due("the same wall", town.count(4), 1);
        for (int again = 0; again < 2; again++) {
            checks.tell(town, "gate " + g + " " + f);
            checks.due("no wall", town.count(4) + town.field(f, 1) + town.field(g, 1), 0);
        }
    }

    /** "small letters a .. z" are of one TOKEN with those beside them, no other bytes are. */
    private static void smallLettersAlone() {
        for (int sign = 0; sign < 256; sign++) {
            boolean letter = sign >= 'a' && sign <= 'z';
            boolean blank = sign == ' ';
            String one = String.valueOf((char) sign);
            fault("town" + one, letter ? 0 : blank ? NONE : sign == ';' ? 5 : 4);
            fault(one + "town", blank ? NONE : 0);
            fault(one, blank ? 1 : 0);
            boolean digit = sign == '0' || sign == '1';
            fault("wheat" + one + "1", letter ? 0 : blank || digit ? NONE : 5);
            fault("wheat " + one + "1", blank || digit ? NONE : 6);
        }
    }

    /** "a row of digits" ends with every byte that is none. */
    private static void digitsAlone() {
        for (int sign = 0; sign < 256; sign++) {
            boolean digit = sign >= '0' && sign <= '9';
            boolean blank = sign == ' ';
            String one = String.valueOf((char) sign);
            int wall = blank ? NONE : digit ? 5 : 6;
            fault("wall 1" + one + "2", wall);
            int wheat = sign == '0' || sign == '1' || blank ? NONE : digit ? 6 : sign == ';' ? 8 : 7;
            fault("wheat 1" + one, wheat);
            fault("wheat " + one, digit ? NONE : blank ? 7 : 6);
        }
    }

    /** "blanks (32) may stand ahead of, between, behind TOKENS", in none of them, and no other bytes may. */
    private static void blanksAlone() {
        fault("  stand  3  4  ;  town  ;  wall  1  0  ", NONE);
        fault("to wn", 0);
        fault("wheat 1 1", 8);
        fault("wall 1 0", NONE);
        fault("wall 10", 7);
        fault("wa ll 1 0", 0);
        fault("st and 1 0", 0);
        for (int sign = 0; sign < 256; sign++) {
            boolean blank = sign == ' ';
            boolean letter = sign >= 'a' && sign <= 'z';
            String one = String.valueOf((char) sign);
            fault(one + "vine 3", blank ? NONE : 0);
            fault("vine 3 " + one, blank ? NONE : sign == ';' ? 8 : 7);
            int between = blank ? NONE : letter ? 0 : sign == '0' || sign == '1' ? NONE : 4;
            fault("vine" + one + "1", between);
        }
    }

    /** "and need not where a TOKEN ends without" */
    private static void blanksNeedNot() {
        BallTown town = new BallTown();
        checks.tell(town, "wheat0;vine1;well2;wall3 4;gate3 4;stand5 1;fallow6;wall10 11");
        checks.due("wheat", town.field(0, 0), 1);
        checks.due("vine", town.field(1, 0), 2);
        checks.due("well", town.field(2, 0), 3);
        checks.due("wall", town.field(11, 1), 1);
        checks.due("gate", town.field(3, 1), 0);
        checks.due("stand", town.walker(0) * 10 + town.walker(1), 51);
        fault("town;town", NONE);
        fault("townwheat1", 0);
        fault("wall01", 6);
        fault("stand51", 5);
        fault("stand11", 7);
        fault("wheat1vine2", 6);
    }

    /** No other words: none shorter, none longer, none with another letter or a great one. */
    private static void theWordsAlone() {
        for (String word : WORDS) {
            String rest = OF_TWO.contains(word) ? " 0 1" : OF_ONE.contains(word) ? " 0" : "";
            fault(word + rest, NONE);
            fault(word.toUpperCase() + rest, 0);
            for (int i = 0; i < word.length(); i++) {
                fault(word.substring(0, i) + rest, i == 0 && !rest.isEmpty() ? 1 : 0);
                fault(word.substring(i + 1) + " !", i + 1 == word.length() ? 1 : 0);
                fault(word.substring(0, i) + (char) (word.charAt(i) - 32) + word.substring(i + 1) + rest, 0);
                for (char letter = 'a'; letter <= 'z'; letter++) {
                    String changed = word.substring(0, i) + letter + word.substring(i + 1);
                    fault(changed + " !", WORDS.contains(changed) ? word.length() + 1 : 0);
                    fault(word.substring(0, i) + letter + word.substring(i) + rest, 0);
                }
            }
            for (char letter = 'a'; letter <= 'z'; letter++) {
                fault(word + letter + rest, 0);
            }
        }
    }

    /** "THE TEXT's LINES are done, and it is empty then: how many there were. NOT: it has a FAULT." */
    private static void townOrNot() {
        BallTown town = new BallTown();
        checks.due("an empty text has a fault", town.town(), NOT);
        Checks.write(town, "wheat 0;vine 1;well 12");
        checks.due("a fault in the last line", town.town(), NOT);
        checks.due("none is done", town.count(0), 12);
        checks.due("it is there still", town.count(7), 22);
        checks.due("and its fault", town.fault(), 20);
        town.erase();
        Checks.write(town, "wheat 0;vine 1;well 1");
        checks.due("three lines", town.town(), 3);
        checks.due("empty", town.count(7), 0);
        checks.due("an empty text again", town.fault(), 0);
        checks.due("NOT again", town.town(), NOT);
        checks.due("what was done stays", town.count(1) + town.count(3), 2);
    }

    /** "LINES are done in their order." */
    private static void linesInOrder() {
        String[] kinds = {"fallow", "wheat", "vine", "well"};
        for (int first = 0; first < 4; first++) {
            for (int last = 0; last < 4; last++) {
                BallTown town = Checks.townOf(kinds[first] + " 5;" + kinds[last] + " 5");
                checks.due(kinds[first] + ", then " + kinds[last], town.field(5, 0), last);
            }
        }
        checks.due("wall, then gate", Checks.townOf("wall 0 1;gate 0 1").count(4), 0);
        checks.due("gate, then wall", Checks.townOf("gate 0 1;wall 0 1").count(4), 1);
        checks.due("stand twice", Checks.townOf("stand 3 3;stand 4 4").walker(0), 4);
        checks.due("wheat, then town", Checks.townOf("wheat 3;town").count(1), 0);
        checks.due("town, then wheat", Checks.townOf("town;wheat 3").count(1), 1);
        checks.due("wall, then town", Checks.townOf("wall 0 1;town").count(4), 0);
        checks.due("town, then wall", Checks.townOf("town;wall 0 1").count(4), 1);
        checks.due("stand, then town", Checks.townOf("stand 3 3;town").walker(0), 0);
        checks.due("town, then stand", Checks.townOf("town;stand 3 3").walker(0), 3);
    }

    /** "what earlier texts told stays, where nothing else is told" */
    private static void whatEarlierTextsToldStays() {
        String[] later = {"fallow 9", "wheat 9", "vine 9", "well 9", "wall 9 11", "gate 9 11", "stand 9 1"};
        for (String text : later) {
            BallTown town = Checks.townOf("wheat 0;vine 1;well 2;wall 3 4;stand 6 4");
            checks.tell(town, text);
            checks.due("wheat behind " + text, town.field(0, 0), 1);
            checks.due("vine behind " + text, town.field(1, 0), 2);
            checks.due("well behind " + text, town.field(2, 0), 3);
            checks.due("wall behind " + text, town.field(3, 1), 1 << Sewn.sideOf(3, 4));
            boolean stands = text.startsWith("stand");
            checks.due("field behind " + text, town.walker(0), stands ? 9 : 6);
            checks.due("side behind " + text, town.walker(1), stands ? 1 : 4);
        }
    }

    /** "town: all as at first" */
    private static void townIsAllAsAtFirst() {
        BallTown town = Checks.townOf("wheat 0;vine 1;well 2;stand 6 4");
        checks.tellOfPairs(town, "wall", Sewn.pairs());
        town.rotate(3, 3);
        town.keep(0);
        town.keep(1);
        checks.tell(town, "town");
        List<String> got = new ArrayList<>(Twins.asked(town));
        checks.due("as a new one", got.equals(Twins.asked(new BallTown())) ? 1 : 0, 1);
    }

    /** "Behind them KINDS are as told by texts (what was TURNED ahead goes)", whatever the text tells. */
    private static void whatWasTurnedGoes() {
        for (String text : new String[] {"stand 1 1", "gate 0 1", "wall 0 1", "fallow 11", "vine 11"}) {
            BallTown town = Checks.townOf("wheat 0;well 1");
            town.rotate(8, 2);
            checks.due("turned", town.field(8, 0), 1);
            checks.due("turned away", town.field(0, 0), 0);
            checks.tell(town, text);
            checks.due("told: wheat at 0, behind " + text, town.field(0, 0), 1);
            checks.due("told: a well at 1, behind " + text, town.field(1, 0), 3);
            checks.due("one of each", town.count(1) + town.count(3), 2);
        }
        BallTown town = Checks.townOf("wheat 0");
        town.rotate(8, 2);
        checks.tell(town, "fallow 8");
        checks.due("what stood where it was turned", town.field(0, 0), 1);
    }

    /** "the WALKER stands as told last, no STEPS have been": in this text, else in the last one that told of him. */
    private static void walkerStandsAsToldLast() {
        BallTown town = new BallTown();
        town.step(1);
        town.step(2);
        checks.tell(town, "wheat 1");
        checks.due("never told: field 0", town.walker(0), 0);
        checks.due("never told: side 0", town.walker(1), 0);
        checks.due("no steps", town.walker(2), 0);
        checks.tell(town, "stand 7 2;stand 3 1");
        town.step(4);
        checks.due("one step", town.walker(2), 1);
        checks.tell(town, "gate 0 1");
        checks.due("told by an earlier text", town.walker(0), 3);
        checks.due("his side then", town.walker(1), 1);
        checks.due("no steps then", town.walker(2), 0);
        town.step(4);
        town.keep(0);
        town.step(4);
        town.back(0);
        checks.tell(town, "gate 0 1");
        checks.due("not as he was kept", town.walker(0), 3);
        checks.due("nor his steps", town.walker(2), 0);
    }

    /** "nothing is kept" behind a text. */
    private static void nothingIsKept() {
        for (String text : new String[] {"town", "wheat 1", "gate 0 1", "stand 0 0"}) {
            BallTown town = new BallTown();
            town.keep(0);
            town.keep(1);
            checks.tell(town, text);
            for (int k = 0; k < 2; k++) {
                checks.due("back(" + k + ") behind " + text, town.back(k), NOT);
                checks.due("like(" + k + ") behind " + text, town.like(k), NOT);
            }
            checks.due("kept anew", town.keep(1), 0);
            checks.due("there", town.back(1), 0);
            checks.due("the other one not", town.back(0), NOT);
        }
    }

    /** Neither bytes that are written or erased nor a town() that is refused undo what a text would. */
    private static void refusedTextsUndoNothing() {
        BallTown town = Checks.townOf("wheat 0");
        town.rotate(4, 1);
        town.step(2);
        town.keep(1);
        Checks.write(town, "town;foo");
        checks.due("refused", town.town(), NOT);
        checks.due("erased", town.erase(), 8);
        checks.due("refused for nothing", town.town(), NOT);
        checks.due("turned still", town.field(4, 0), 1);
        checks.due("gone still", town.walker(0), 3);
        checks.due("steps still", town.walker(2), 1);
        checks.due("kept still", town.back(1), 1);
        checks.due("like still", town.like(1), 5);
    }
}

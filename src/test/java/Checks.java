import java.util.List;

/** Counts and prints the answers that are not as due; every test ends with it. */
final class Checks {
    private int asked = 0;
    private int wrong = 0;

    void due(String call, long got, long want) {
        asked++;
        if (got != want) {
            wrong++;
            System.out.println(call + " answered " + got + ", due is " + want);
        }
    }

    void dueAll(String call, int[] got, int[] want) {
        due(call + ", how many", got.length, want.length);
        for (int i = 0; i < got.length && i < want.length; i++) {
            due(call + " " + i, got[i], want[i]);
        }
    }

    /** Tells the class's refusal for each of the numbers that are no FIELD. */
    static int[] noFields() {
        return new int[] {-1, 12, 13, 100, Integer.MIN_VALUE, Integer.MAX_VALUE};
    }

    static int[] noSides() {
        return new int[] {-1, 5, 6, 60, Integer.MIN_VALUE, Integer.MAX_VALUE};
    }

    static void write(BallTown town, String text) {
        for (int at = 0; at < text.length(); at += 8) {
            String part = text.substring(at, Math.min(at + 8, text.length()));
            town.write(packed(part), part.length());
        }
    }

    static long packed(String part) {
        long bytes = 0;
        for (int i = 0; i < part.length(); i++) {
            bytes |= (long) part.charAt(i) << 8 * i;
        }
        return bytes;
    }

    /** Writes a text without a fault and has it done. */
    void tell(BallTown town, String text) {
        write(town, text);
        due("town() of '" + text + "'", town.town(), text.split(";", -1).length);
    }

    static BallTown townOf(String text) {
        BallTown town = new BallTown();
        write(town, text);
        if (town.town() < 1) {
            throw new IllegalArgumentException("a test's text has a fault: " + text);
        }
        return town;
    }

    /** As many lines as there are pairs, a word ahead of each, by as many texts as they need. */
    void tellOfPairs(BallTown town, String word, List<int[]> pairs) {
        StringBuilder text = new StringBuilder();
        for (int i = 0; i < pairs.size(); i++) {
            text.append(text.length() == 0 ? "" : ";").append(word).append(pairs.get(i)[0]).append(' ').append(pairs.get(i)[1]);
            if (i % 12 == 11 || i == pairs.size() - 1) {
                tell(town, text.toString());
                text.setLength(0);
            }
        }
    }

    void end(String test) {
        System.out.println(test + ": " + asked + " answers, " + wrong + " not as due");
        if (wrong != 0 || asked == 0) {
            System.exit(1);
        }
    }
}

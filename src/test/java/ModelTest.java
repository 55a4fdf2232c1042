import java.util.Random;

/** Many runs of calls, the same ones in each run of the test, answered by the class and by the model. */
public final class ModelTest {
    private static final int RUNS = 600, CALLS = 512;
    private static final String[] WORDS = {"fallow", "wheat", "vine", "well", "wall", "wall", "wall", "gate", "stand", "town"};
    private static final Checks checks = new Checks();

    private final Random random;
    private final String name;
    private final BallTown town = new BallTown();
    private final Model model = new Model();

    private ModelTest(int run) {
        random = new Random(run);
        name = "run " + run + ", call ";
    }

    public static void main(String[] args) {
        for (int run = 0; run < RUNS; run++) {
            ModelTest test = new ModelTest(run);
            for (int call = 0; call < CALLS;) {
                call += random(test, call);
            }
        }
        checks.end("ModelTest");
    }

    private static int random(ModelTest test, int call) {
        if (test.random.nextInt(12) == 0) {
            return test.tell(call);
        }
        test.call(call, test.random.nextInt(28));
        return 1;
    }

    /** A text is written whole, mostly without a fault, and read. */
    private int tell(int call) {
        String text = text();
        int calls = 0;
        if (random.nextInt(4) != 0) {
            checks.due(name + call + " erase", town.erase(), model.erase());
            calls++;
        }
        for (int at = 0; at < text.length(); at += 8) {
            String part = text.substring(at, Math.min(at + 8, text.length()));
            long bytes = Checks.packed(part);
            checks.due(name + call + " write '" + part + "'", town.write(bytes, part.length()), model.write(bytes, part.length()));
            calls++;
        }
        checks.due(name + call + " fault of '" + text + "'", town.fault(), model.fault());
        checks.due(name + call + " town of '" + text + "'", town.town(), model.town());
        return calls + 2;
    }

    private String text() {
        StringBuilder text = new StringBuilder();
        int lines = 1 + random.nextInt(random.nextInt(3) == 0 ? 13 : 6);
        for (int i = 0; i < lines; i++) {
            text.append(i == 0 ? "" : blanks() + ";" + blanks()).append(line());
        }
        if (random.nextInt(3) == 0) {
            spoil(text);
        }
        return text.toString();
    }

    private String line() {
        int pick = random.nextInt(WORDS.length * 3);
        String word = WORDS[Math.min(pick / 3, WORDS.length - 1)];
        if (word.equals("town")) {
            return random.nextInt(4) == 0 ? word : "wheat " + random.nextInt(12);
        }
        int field = random.nextInt(12);
        StringBuilder line = new StringBuilder(word).append(blanks()).append(digits(field));
        if (word.equals("wall") || word.equals("gate")) {
            line.append(' ').append(blanks()).append(digits(model.beside(field, random.nextInt(5))));
        }
        if (word.equals("stand")) {
            line.append(' ').append(blanks()).append(digits(random.nextInt(5)));
        }
        return line.toString();
    }

    private String blanks() {
        return " ".repeat(random.nextInt(4) / 2);
    }

    private String digits(int number) {
        return (number < 10 && random.nextInt(8) == 0 ? "0" : "") + number;
    }

    private void spoil(StringBuilder text) {
        int at = random.nextInt(text.length());
        switch (random.nextInt(4)) {
            case 0 -> text.setCharAt(at, (char) random.nextInt(256));
            case 1 -> text.deleteCharAt(at);
            case 2 -> text.insert(at, "0123 ;aw\n".charAt(random.nextInt(9)));
            default -> text.setLength(at);
        }
    }

    private int oneOf(int bound) {
        if (random.nextInt(20) != 0) {
            return random.nextInt(bound);
        }
        int[] odd = {-1, -2, bound, bound + 1, Integer.MIN_VALUE, Integer.MAX_VALUE, 1 << 16, -5};
        return odd[random.nextInt(odd.length)];
    }

    private void call(int call, int method) {
        String at = name + call + " method " + method;
        int f = oneOf(12);
        int g = oneOf(12);
        int s = oneOf(5);
        int k = oneOf(2);
        int what = oneOf(4);
        switch (method) {
            case 0 -> {
                long bytes = random.nextLong();
                int n = oneOf(9);
                checks.due(at, town.write(bytes, n), model.write(bytes, n));
            }
            case 1 -> checks.due(at, town.erase(), model.erase());
            case 2 -> checks.due(at, town.fault(), model.fault());
            case 3 -> checks.due(at, town.town(), model.town());
            case 4 -> checks.due(at, town.beside(f, s), model.beside(f, s));
            case 5 -> checks.due(at, town.side(f, g), model.side(f, g));
            case 6 -> checks.due(at, town.far(f, g), model.far(f, g));
            case 7 -> checks.due(at, town.other(f), model.other(f));
            case 8 -> checks.due(at, town.goes(f, s, g), model.goes(f, s, g));
            case 9 -> checks.due(at, town.field(f, what), model.field(f, what));
            case 10 -> checks.due(at, town.as(f, s), model.as(f, s));
            case 11 -> checks.due(at, town.rotate(f, s), model.rotate(f, s));
            case 12 -> checks.due(at, town.step(s), model.step(s));
            case 13 -> checks.due(at, town.walker(what), model.walker(what));
            case 14 -> checks.due(at, town.keep(k), model.keep(k));
            case 15 -> checks.due(at, town.back(k), model.back(k));
            case 16 -> checks.due(at, town.home(s), model.home(s));
            case 17 -> checks.due(at, town.alike(), model.alike());
            case 18 -> checks.due(at, town.like(k), model.like(k));
            default -> foretold(at, method);
        }
    }

    private void foretold(String at, int method) {
        int f = oneOf(12);
        int g = oneOf(12);
        int s = oneOf(5);
        int k = oneOf(9);
        switch (method) {
            case 19 -> checks.due(at, town.fixed(f, s, k), model.fixed(f, s, k));
            case 20 -> checks.due(at, town.unlike(k), model.unlike(k));
            case 21 -> checks.due(at, town.wardens(s), model.wardens(s));
            case 22 -> checks.due(at, town.inside(f), model.inside(f));
            case 23 -> checks.due(at, town.rounds(f - 1), model.rounds(f - 1));
            case 24 -> {
                int n = oneOf(21);
                checks.due(at, town.walks(f, g, n), model.walks(f, g, n));
            }
            case 25 -> {
                int part = oneOf(2);
                checks.due(at, town.odds(f, g, k, part), model.odds(f, g, k, part));
            }
            default -> checks.due(at, town.count(k), model.count(k));
        }
    }
}

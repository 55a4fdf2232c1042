import java.lang.reflect.InvocationTargetException;
import java.lang.reflect.Method;
import java.util.ArrayList;
import java.util.List;

/**
 * A run of calls on one object, told in lines such as "step 2 = 3": the call, its numbers, the answer that is due.
 * One number may be a row, "home 0..4 = 2 3 5 5 3": a call and an answer for each. "write TEXT = 6" writes a text by
 * eights, due is the last answer; "tell TEXT = 2" writes one and has it done, due is how many lines there were.
 */
final class Run {
    private final Checks checks;
    private final String name;
    private final BallTown town = new BallTown();
    private int calls = 0;

    Run(Checks checks, String name) {
        this.checks = checks;
        this.name = name;
    }

    int calls() {
        return calls;
    }

    /** Lines that begin with # tell the reader what is on. */
    void all(String... texts) {
        for (String line : String.join("\n", texts).split("\n")) {
            if (!line.startsWith("#")) {
                one(line);
            }
        }
    }

    private void one(String line) {
        int parts = line.lastIndexOf(" = ");
        String asked = line.substring(0, parts);
        String[] due = line.substring(parts + 3).split(" ");
        if (asked.startsWith("write ")) {
            due(asked, write(asked.substring(6)), due[0]);
        } else if (asked.startsWith("tell ")) {
            write(asked.substring(5));
            calls++;
            due(asked, town.town(), due[0]);
        } else {
            row(asked, due);
        }
    }

    private long write(String text) {
        long answer = 0;
        for (int at = 0; at < text.length(); at += 8) {
            String part = text.substring(at, Math.min(at + 8, text.length()));
            calls++;
            answer = town.write(Checks.packed(part), part.length());
        }
        return answer;
    }

    private void row(String asked, String[] due) {
        List<String> single = new ArrayList<>(List.of(asked));
        for (String word : asked.split(" ")) {
            int dots = word.indexOf("..");
            if (dots >= 0) {
                single.clear();
                int last = Integer.parseInt(word.substring(dots + 2));
                for (int number = Integer.parseInt(word.substring(0, dots)); number <= last; number++) {
                    single.add(asked.replace(word, String.valueOf(number)));
                }
            }
        }
        if (single.size() != due.length) {
            throw new IllegalArgumentException(asked + " is asked " + single.size() + " times, answers: " + due.length);
        }
        for (int i = 0; i < due.length; i++) {
            due(single.get(i), answer(single.get(i).split(" ")), due[i]);
        }
    }

    private void due(String asked, long got, String want) {
        checks.due(name + ", call " + calls + ", " + asked, got, Long.parseLong(want));
    }

    private long answer(String[] words) {
        calls++;
        for (Method method : BallTown.class.getMethods()) {
            if (method.getName().equals(words[0]) && method.getDeclaringClass() == BallTown.class) {
                return answer(method, words);
            }
        }
        throw new IllegalArgumentException("no call " + words[0]);
    }

    private long answer(Method method, String[] words) {
        Class<?>[] types = method.getParameterTypes();
        Object[] numbers = new Object[types.length];
        for (int i = 0; i < types.length; i++) {
            long number = Long.parseLong(words[i + 1]);
            numbers[i] = types[i] == long.class ? (Object) number : (Object) (int) number;
        }
        try {
            return ((Number) method.invoke(town, numbers)).longValue();
        } catch (IllegalAccessException | InvocationTargetException failed) {
            throw new IllegalStateException(name + ", " + String.join(" ", words), failed);
        }
    }
}

import java.util.ArrayList;
import java.util.Arrays;
import java.util.List;

/** What the tests share: answers that are due, and code told as text. */
final class Due {
    private static final int MOST_SHOWN = 40;
    private final List<String> faults = new ArrayList<>();
    private int checks = 0;

    void is(String call, int got, int want) {
        checks++;
        if (got != want) {
            faults.add(call + " answered " + got + ", due is " + want);
        }
    }

    void holds(String what, boolean holds) {
        checks++;
        if (!holds) {
            faults.add(what);
        }
    }

    boolean isWrong() {
        return !faults.isEmpty();
    }

    /** Prints the faults and ends the program: with exit code 1 if there was one. */
    void end() {
        for (int i = 0; i < faults.size() && i < MOST_SHOWN; i++) {
            System.out.println(faults.get(i));
        }
        System.out.println(checks + " answers looked at, " + faults.size() + " not as due");
        System.exit(faults.isEmpty() ? 0 : 1);
    }

    static void say(SameAgain x, String signs) {
        for (int i = 0; i < signs.length(); i++) {
            x.say(signs.charAt(i));
        }
    }

    static SameAgain code(String... lines) {
        SameAgain x = new SameAgain();
        for (String line : lines) {
            say(x, line);
            if (line.length() > 8 || x.line() < 0) {
                throw new IllegalArgumentException("the test's own code is too long: " + String.join(" ", lines));
            }
        }
        return x;
    }

    /** So many lines that all read the same. */
    static SameAgain same(String line, int times) {
        String[] lines = new String[times];
        Arrays.fill(lines, line);
        return code(lines);
    }

    static String[] joined(String[]... rows) {
        return Arrays.stream(rows).flatMap(Arrays::stream).toArray(String[]::new);
    }

    /** One line for each sign. */
    static String[] lines(String signs) {
        return signs.split("");
    }

    static void change(SameAgain x, int line, String signs) {
        say(x, signs);
        x.change(line);
    }
}

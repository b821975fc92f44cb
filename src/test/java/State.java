import java.util.ArrayList;
import java.util.List;

/** What an object is at one moment, told by how much of all there is: it can be made as often as a test needs it. */
record State(int signs, int lines, int versions, boolean keptZero, boolean keptOne) {
    /** Parts of what can be seen of an object: all of it at once would take more calls than one object promises. */
    static final int PARTS = 4;
    /** So many calls may be made on an object between making it and looking at one part. */
    static final int CALLS_BETWEEN = 80;
    private static final int LEAST = Integer.MIN_VALUE;

    SameAgain make() {
        SameAgain x = new SameAgain();
        for (int i = 0; i < lines; i++) {
            if (keptZero && i == lines / 2) {
                x.image(0);
            }
            Due.say(x, "" + (char) ('a' + i % 3) + i % 2);
            x.line();
        }
        if (keptOne) {
            x.image(1);
        }
        for (int version = 1; version < versions; version++) {
            x.version();
            if (lines > 0) {
                Due.change(x, version % lines, "=" + version);
            }
        }
        if (keptZero && lines == 0) {
            x.image(0);
        }
        for (int i = 0; i < signs; i++) {
            x.say('p' + i);
        }
        return x;
    }

    /** Uses the object up: it is not what it was afterwards. */
    static List<Integer> look(SameAgain x, int part) {
        List<Integer> seen = new ArrayList<>();
        if (part == 0) {
            seen.add(x.told(0));
            lookAtCode(x, seen);
        } else if (part == 1) {
            lookAtPad(x, seen);
        } else {
            seen.add(x.restore(part - 2));
            lookAtCode(x, seen);
        }
        return seen;
    }

    private static void lookAtCode(SameAgain x, List<Integer> seen) {
        int lines = x.told(1);
        int versions = x.told(2);
        seen.add(lines);
        seen.add(versions);
        for (int version = 0; version < versions; version++) {
            for (int line = 0; line < lines; line++) {
                for (int i = -1; i <= 2; i++) {
                    seen.add(x.sign(version, line, i));
                }
            }
        }
        seen.add(x.sign(versions, 0, -1));
        seen.add(x.sign(0, lines, -1));
        seen.add(x.sign(0, 0, LEAST));
    }

    /** The signs of the PAD can be read only where they have become a LINE. */
    private static void lookAtPad(SameAgain x, List<Integer> seen) {
        int lines = x.told(1);
        int last = x.told(2) - 1;
        seen.add(lines > 0 ? x.change(lines - 1) : x.line());
        for (int i = -1; i <= 8; i++) {
            seen.add(x.sign(last, Math.max(lines - 1, 0), i));
        }
        seen.add(x.wipe());
    }

    @Override
    public String toString() {
        return signs + " signs, " + lines + " LINES, " + versions + " VERSIONS, kept "
            + (keptZero ? "0 " : "") + (keptOne ? "1" : "");
    }
}

import java.util.ArrayList;
import java.util.List;
import java.util.Map;
import java.util.TreeMap;
import java.util.stream.IntStream;

/**
 * "Calls that are refused answer, the first of these that fits .. They change nothing." All calls whose numbers stand
 * at an edge, on both sides of one, or are the least or the greatest int, together in every way, in states that are
 * empty, full, and one short of full.
 */
public final class RefusalTest {
    private static final int MOST = Integer.MAX_VALUE;
    private static final int LEAST = Integer.MIN_VALUE;
    private static final int BELOW_ALL_SAVES = -1000;
    private static final int ALLOWED = 0;

    private static final State[] STATES = {
        new State(0, 0, 1, false, false),
        new State(1, 0, 1, true, false),
        new State(8, 0, 4, false, true),
        new State(0, 1, 1, false, false),
        new State(3, 5, 2, true, false),
        new State(7, 19, 3, false, true),
        new State(0, 19, 4, true, true),
        new State(8, 20, 4, true, true),
        new State(0, 20, 4, false, false),
        new State(8, 20, 1, false, true),
    };

    private static final Due due = new Due();

    /** What a number of a call may be. */
    private enum Kind {
        VERSION, VERSION_WITH_ONE_BEHIND, LINE, SIGN, WAY, START, LENGTH, TO_ONE, TO_TWO, WITHIN_LENGTH, COST, PLACE;

        int[] edges(State s) {
            switch (this) {
                case VERSION: return new int[] {LEAST, -1, 0, s.versions() - 1, s.versions(), 4, MOST};
                case VERSION_WITH_ONE_BEHIND:
                    return new int[] {LEAST, -1, 0, s.versions() - 2, s.versions() - 1, s.versions(), MOST};
                case LINE: return new int[] {LEAST, -1, 0, s.lines() - 1, s.lines(), 19, 20, MOST};
                case SIGN: return new int[] {LEAST, -1, 0, 32, 33, 126, 127, 'a' + 256, 'a' + 65536, MOST};
                case WAY: return new int[] {LEAST, -1, 0, 1, 2, 3, MOST};
                case START: return new int[] {LEAST, -1, 0, 19, 20, MOST};
                case LENGTH: return new int[] {LEAST, -1, 0, 1, 20, 21, MOST};
                case TO_ONE: return new int[] {LEAST, -1, 0, 1, 2, MOST};
                case TO_TWO: return new int[] {LEAST, -1, 0, 1, 2, 3, MOST};
                case WITHIN_LENGTH: return new int[] {LEAST, -1, 0, 1, 19, 20, MOST};
                case COST: return new int[] {LEAST, -1, 0, 24, 25, MOST};
                default: return new int[] {LEAST, -2, -1, 0, 8, MOST};
            }
        }

        int refusalOf(int number, State s, int[] all) {
            switch (this) {
                case VERSION: return unless(isIn(number, 0, s.versions() - 1), SameAgain.UNKNOWN);
                case VERSION_WITH_ONE_BEHIND: return unless(isIn(number, 0, s.versions() - 2), SameAgain.UNKNOWN);
                case LINE: return unless(isIn(number, 0, s.lines() - 1), SameAgain.UNKNOWN);
                case SIGN: return unless(isIn(number, 33, 126), SameAgain.OUTSIDE);
                case WAY: return unless(isIn(number, 0, 2), SameAgain.OUTSIDE);
                case START: return unless(isIn(number, 0, 19), SameAgain.OUTSIDE);
                case LENGTH: return unless(isIn(number, 1, 20), SameAgain.OUTSIDE);
                case TO_ONE: return unless(isIn(number, 0, 1), SameAgain.OUTSIDE);
                case TO_TWO: return unless(isIn(number, 0, 2), SameAgain.OUTSIDE);
                case WITHIN_LENGTH: return unless(number >= 0 && number < all[3], SameAgain.OUTSIDE);
                case COST: return unless(isIn(number, 0, 24), SameAgain.OUTSIDE);
                default: return ALLOWED;
            }
        }
    }

    private static boolean isIn(int number, int least, int most) {
        return number >= least && number <= most;
    }

    private static int unless(boolean fits, int refusal) {
        return fits ? ALLOWED : refusal;
    }

    public static void main(String[] args) {
        Map<String, Kind[]> face = face();
        due.is("calls of the face", face.size(), 23);
        for (State state : STATES) {
            for (String name : face.keySet()) {
                List<Call> asked = new ArrayList<>();
                addAll(name, face.get(name), state, new int[face.get(name).length], 0, asked);
                asked.removeIf(call -> maySucceedAndChange(call, state, face.get(name)));
                each(asked, state, face.get(name));
                manyOnOneObject(asked, state, face.get(name));
            }
        }
        due.end();
    }

    private static Map<String, Kind[]> face() {
        Map<String, Kind[]> face = new TreeMap<>();
        face.put("say", new Kind[] {Kind.SIGN});
        face.put("wipe", new Kind[] {});
        face.put("line", new Kind[] {});
        face.put("change", new Kind[] {Kind.LINE});
        face.put("version", new Kind[] {});
        face.put("sign", new Kind[] {Kind.VERSION, Kind.LINE, Kind.PLACE});
        face.put("alike", new Kind[] {Kind.VERSION, Kind.WAY, Kind.START, Kind.START, Kind.LENGTH});
        face.put("longest", new Kind[] {Kind.VERSION, Kind.WAY, Kind.TO_TWO});
        face.put("like", new Kind[] {Kind.VERSION, Kind.WAY, Kind.START, Kind.LENGTH});
        face.put("groups", new Kind[] {Kind.VERSION, Kind.WAY, Kind.LENGTH, Kind.PLACE});
        face.put("whole", new Kind[] {Kind.VERSION, Kind.WAY, Kind.START, Kind.LENGTH});
        face.put("pulled", new Kind[] {Kind.VERSION, Kind.WAY, Kind.START, Kind.LENGTH, Kind.TO_TWO});
        face.put("best", new Kind[] {Kind.VERSION, Kind.WAY, Kind.TO_TWO});
        face.put("two", new Kind[] {Kind.VERSION, Kind.WAY});
        face.put("forgotten", new Kind[] {Kind.VERSION, Kind.START, Kind.START, Kind.LENGTH, Kind.TO_ONE});
        face.put("parted", new Kind[] {Kind.WAY, Kind.START, Kind.START, Kind.LENGTH});
        face.put("mends", new Kind[] {Kind.VERSION_WITH_ONE_BEHIND, Kind.START, Kind.START, Kind.LENGTH});
        face.put("mend", new Kind[] {Kind.VERSION_WITH_ONE_BEHIND, Kind.START, Kind.START, Kind.LENGTH,
            Kind.WITHIN_LENGTH, Kind.PLACE});
        face.put("far", new Kind[] {Kind.VERSION, Kind.LINE, Kind.LINE});
        face.put("near", new Kind[] {Kind.VERSION, Kind.LINE, Kind.COST});
        face.put("image", new Kind[] {Kind.TO_ONE});
        face.put("restore", new Kind[] {Kind.TO_ONE});
        face.put("told", new Kind[] {Kind.TO_TWO});
        return face;
    }

    private static void addAll(String name, Kind[] kinds, State state, int[] numbers, int at, List<Call> to) {
        if (at == kinds.length) {
            to.add(new Call(name, numbers.clone()));
            return;
        }
        for (int number : IntStream.of(kinds[at].edges(state)).distinct().toArray()) {
            numbers[at] = number;
            addAll(name, kinds, state, numbers, at + 1, to);
        }
    }

    /** UNKNOWN first, then OUTSIDE, whichever of the numbers it is; then what the state refuses. */
    private static int refusal(Call call, State s, Kind[] kinds) {
        int refusal = ALLOWED;
        for (int i = 0; i < kinds.length && refusal != SameAgain.UNKNOWN; i++) {
            int found = kinds[i].refusalOf(call.numbers()[i], s, call.numbers());
            refusal = found == ALLOWED ? refusal : found;
        }
        return refusal == ALLOWED ? refusalOfState(call, s) : refusal;
    }

    private static int refusalOfState(Call call, State s) {
        switch (call.name()) {
            case "say": return unless(s.signs() < 8, SameAgain.FULL);
            case "line": return s.lines() == 20 ? SameAgain.FULL : unless(s.signs() > 0, SameAgain.NO);
            case "change": return unless(s.signs() > 0, SameAgain.NO);
            case "version": return unless(s.versions() < 4, SameAgain.FULL);
            case "restore": return unless(call.numbers()[0] == 0 ? s.keptZero() : s.keptOne(), SameAgain.STATE);
            default: return ALLOWED;
        }
    }

    private static boolean maySucceedAndChange(Call call, State state, Kind[] kinds) {
        boolean changes = List.of("say", "wipe", "line", "change", "version", "image", "restore").contains(call.name());
        return changes && refusal(call, state, kinds) == ALLOWED;
    }

    private static void answer(Call call, SameAgain x, State state, Kind[] kinds) {
        int refusal = refusal(call, state, kinds);
        int below = call.name().equals("pulled") ? BELOW_ALL_SAVES : 0;
        int got = call.on(x);
        if (refusal != ALLOWED) {
            due.is(call + " in " + state, got, below + refusal);
        } else {
            boolean refused = got < below && got >= below + SameAgain.FULL;
            due.holds(call + " in " + state + " answered the refusal " + got, !refused);
        }
    }

    /** Each call on objects of its own, if at most one of its numbers is not as told, and all that can be seen then. */
    private static void each(List<Call> asked, State state, Kind[] kinds) {
        for (Call call : asked) {
            int wrong = 0;
            for (int i = 0; i < kinds.length; i++) {
                wrong += kinds[i].refusalOf(call.numbers()[i], state, call.numbers()) == ALLOWED ? 0 : 1;
            }
            for (int part = 0; part < State.PARTS && wrong <= 1; part++) {
                SameAgain x = state.make();
                answer(call, x, state, kinds);
                due.holds(call + " in " + state + " changed part " + part,
                    State.look(x, part).equals(State.look(state.make(), part)));
            }
        }
    }

    private static void manyOnOneObject(List<Call> asked, State state, Kind[] kinds) {
        for (int from = 0; from < asked.size(); from += State.CALLS_BETWEEN) {
            SameAgain x = state.make();
            List<Call> some = asked.subList(from, Math.min(from + State.CALLS_BETWEEN, asked.size()));
            for (Call call : some) {
                answer(call, x, state, kinds);
            }
            int part = from / State.CALLS_BETWEEN % State.PARTS;
            due.holds("one of the calls from " + some.get(0) + " on in " + state + " changed part " + part,
                State.look(x, part).equals(State.look(state.make(), part)));
        }
    }
}

import java.util.ArrayList;
import java.util.Arrays;
import java.util.HashMap;
import java.util.HashSet;
import java.util.List;
import java.util.Map;
import java.util.Random;
import java.util.Set;
import java.util.TreeMap;

/** Long runs of calls, each answered by the class and by a second, slow program that follows the document's words. */
public final class ModelTest {
    private static final int RUNS = 1500;
    private static final int CALLS = 512;
    private static final int MOST_CALLS_OF_A_STEP = 60;
    private static final int[] WILD = {-7, -2, -1, 3, 4, 20, 21, 24, 25, 32, 33, 126, 127, 1000,
        Integer.MAX_VALUE, Integer.MAX_VALUE - 1, Integer.MIN_VALUE, Integer.MIN_VALUE + 1};

    public static void main(String[] args) {
        Due due = new Due();
        for (int seed = 0; seed < RUNS && !due.isWrong(); seed++) {
            new Run(seed, due).go();
        }
        due.end();
    }

    /** One object beside one model. */
    private static final class Run {
        private final Random random;
        private final Due due;
        private final SameAgain x = new SameAgain();
        private final Model m = new Model();
        private final String names;
        private final String numbers;
        private final String marks;
        private final int mostSigns;
        private final int copying;
        private final int wildness;
        private final StringBuilder story = new StringBuilder();
        private int calls = 0;

        Run(int seed, Due due) {
            this.random = new Random(seed);
            this.due = due;
            names = "abcdefghijklmnopqrstuvwxyz".substring(0, 1 + random.nextInt(random.nextInt(6) == 0 ? 26 : 5));
            numbers = "0123456789".substring(0, 1 + random.nextInt(3));
            marks = "=+(A~!{`/:@[".substring(0, 1 + random.nextInt(random.nextInt(6) == 0 ? 12 : 2));
            mostSigns = 1 + random.nextInt(8);
            copying = random.nextInt(100);
            wildness = 1 + random.nextInt(12);
            story.append("seed ").append(seed).append(": ");
        }

        void go() {
            int linesAtFirst = random.nextInt(21);
            for (int i = 0; i < linesAtFirst && calls < 200; i++) {
                putLine();
            }
            while (calls < CALLS - MOST_CALLS_OF_A_STEP && !due.isWrong()) {
                step();
            }
        }

        private void step() {
            int pick = random.nextInt(120);
            if (pick < 3) {
                putLine();
            } else if (pick < 12) {
                changeLine();
            } else if (pick < 13) {
                check("version()", x.version(), m.version());
            } else if (pick < 14) {
                check("wipe()", x.wipe(), m.wipe());
            } else if (pick < 16) {
                keepOrRestore();
            } else if (pick < 30) {
                touchCopy();
            } else {
                ask();
            }
        }

        /** Chance seldom meets two copies of which just one was touched, so such are made and asked about here. */
        private void touchCopy() {
            int v = m.versions() - 1;
            for (int tries = 0; tries < 60; tries++) {
                int one = someLineNumber();
                int other = someLineNumber();
                int n = 1 + random.nextInt(5);
                if (one != other && m.alike(v, 1, one, other, n) == 1) {
                    if (random.nextInt(4) == 0) {
                        check("version()", x.version(), m.version());
                    }
                    int line = (random.nextInt(3) > 0 ? one : other) + random.nextInt(n);
                    check("wipe()", x.wipe(), m.wipe());
                    sayAll(altered(m.last().get(line)));
                    check("change(" + line + ")", x.change(line), m.change(line));
                    askOfCopies(one, other, n);
                    askOfCopies(other, one, n);
                    return;
                }
            }
        }

        private void askOfCopies(int s, int o, int n) {
            String rows = s + ", " + o + ", " + n;
            int v = m.versions() - 1;
            for (int what = 0; what < 2; what++) {
                check("forgotten(" + v + ", " + rows + ", " + what + ")",
                    x.forgotten(v, s, o, n, what), m.forgotten(v, s, o, n, what));
            }
            int way = random.nextInt(3);
            check("parted(" + way + ", " + rows + ")", x.parted(way, s, o, n), m.parted(way, s, o, n));
            check("mends(" + (v - 1) + ", " + rows + ")", x.mends(v - 1, s, o, n), m.mends(v - 1, s, o, n));
            int k = random.nextInt(n);
            for (int i = -2; i < 9; i++) {
                check("mend(" + (v - 1) + ", " + rows + ", " + k + ", " + i + ")",
                    x.mend(v - 1, s, o, n, k, i), m.mend(v - 1, s, o, n, k, i));
            }
        }

        private void keepOrRestore() {
            int n = wild(random.nextInt(2));
            if (random.nextInt(3) > 0) {
                check("image(" + n + ")", x.image(n), m.image(n));
            } else {
                check("restore(" + n + ")", x.restore(n), m.restore(n));
            }
        }

        private void putLine() {
            int lines = m.lines();
            boolean copy = lines > 0 && random.nextInt(100) < copying;
            int back = lines > 0 ? 1 + random.nextInt(lines) : 0;
            int count = copy ? 1 + random.nextInt(Math.min(back, 6)) : 1;
            int from = lines - back;
            String to = copy && random.nextBoolean() ? shuffled(names) : names;
            for (int i = 0; i < count; i++) {
                sayAll(copy ? renamed(m.last().get(from + i), to) : someLine());
                check("line()", x.line(), m.line());
            }
        }

        private void changeLine() {
            int line = wild(someLineNumber());
            String signs = someLine();
            if (line >= 0 && line < m.lines() && random.nextInt(4) > 0) {
                signs = altered(m.last().get(line));
            }
            sayAll(signs);
            check("change(" + line + ")", x.change(line), m.change(line));
        }

        private void sayAll(String signs) {
            for (int i = 0; i < signs.length(); i++) {
                int sign = random.nextInt(60) == 0 ? wild(-1) : signs.charAt(i);
                check("say(" + sign + ")", x.say(sign), m.say(sign));
            }
        }

        private String altered(String line) {
            StringBuilder b = new StringBuilder(line);
            int at = random.nextInt(b.length());
            int how = random.nextInt(4);
            if (how == 0 && b.length() < 8) {
                b.insert(at, someSign());
            } else if (how == 1 && b.length() > 1) {
                b.deleteCharAt(at);
            } else if (how == 2) {
                b.setCharAt(at, someSign());
            }
            return b.toString();
        }

        private String someLine() {
            int size = 1 + random.nextInt(mostSigns);
            StringBuilder b = new StringBuilder();
            for (int i = 0; i < size; i++) {
                b.append(someSign());
            }
            return b.toString();
        }

        private char someSign() {
            int kind = random.nextInt(5);
            String of = kind < 3 ? names : kind == 3 ? numbers : marks;
            return of.charAt(random.nextInt(of.length()));
        }

        private String shuffled(String s) {
            char[] c = s.toCharArray();
            for (int i = c.length - 1; i > 0; i--) {
                int j = random.nextInt(i + 1);
                char t = c[i];
                c[i] = c[j];
                c[j] = t;
            }
            return new String(c);
        }

        private String renamed(String line, String to) {
            StringBuilder b = new StringBuilder();
            for (char c : line.toCharArray()) {
                int at = names.indexOf(c);
                boolean slips = random.nextInt(60) == 0;
                b.append(at >= 0 && !slips ? to.charAt(at) : Character.isDigit(c) && slips ? someSign() : c);
            }
            return b.toString();
        }

        private int wild(int tame) {
            return random.nextInt(100) < wildness ? WILD[random.nextInt(WILD.length)] : tame;
        }

        private int someLineNumber() {
            return random.nextInt(Math.max(1, m.lines()));
        }

        private int start() {
            return wild(someLineNumber());
        }

        private int length() {
            return wild(1 + random.nextInt(1 + random.nextInt(10)));
        }

        private int version() {
            return wild(random.nextInt(m.versions()));
        }

        private int way() {
            return wild(random.nextInt(3));
        }

        private void check(String call, int got, int want) {
            calls++;
            story.append(call).append(' ');
            due.is(got == want ? call : story.toString(), got, want);
        }

        private void ask() {
            int v = version();
            int w = way();
            int s = start();
            int o = start();
            int n = length();
            int what = wild(random.nextInt(3));
            int i = wild(random.nextInt(9) - 1);
            int k = wild(random.nextInt(Math.max(1, Math.min(n, 20))));
            String rows = s + ", " + o + ", " + n;
            switch (random.nextInt(18)) {
                case 0 -> check("sign(" + v + ", " + s + ", " + i + ")", x.sign(v, s, i), m.sign(v, s, i));
                case 1 -> check("alike(" + v + ", " + w + ", " + rows + ")", x.alike(v, w, s, o, n), m.alike(v, w, s, o, n));
                case 2 -> check("longest(" + v + ", " + w + ", " + what + ")", x.longest(v, w, what), m.longest(v, w, what));
                case 3 -> check("like(" + v + ", " + w + ", " + s + ", " + n + ")", x.like(v, w, s, n), m.like(v, w, s, n));
                case 4 -> check("groups(" + v + ", " + w + ", " + n + ", " + i + ")", x.groups(v, w, n, i), m.groups(v, w, n, i));
                case 5, 6 -> check("whole(" + v + ", " + w + ", " + s + ", " + n + ")", x.whole(v, w, s, n), m.whole(v, w, s, n));
                case 7, 8 -> check("pulled(" + v + ", " + w + ", " + s + ", " + n + ", " + what + ")",
                    x.pulled(v, w, s, n, what), m.pulled(v, w, s, n, what));
                case 9 -> check("best(" + v + ", " + w + ", " + what + ")", x.best(v, w, what), m.best(v, w, what));
                case 10 -> check("two(" + v + ", " + w + ")", x.two(v, w), m.two(v, w));
                case 11, 12 -> check("forgotten(" + v + ", " + rows + ", " + what + ")",
                    x.forgotten(v, s, o, n, what), m.forgotten(v, s, o, n, what));
                case 13 -> check("parted(" + w + ", " + rows + ")", x.parted(w, s, o, n), m.parted(w, s, o, n));
                case 14 -> check("mends(" + v + ", " + rows + ")", x.mends(v, s, o, n), m.mends(v, s, o, n));
                case 15 -> check("mend(" + v + ", " + rows + ", " + k + ", " + i + ")",
                    x.mend(v, s, o, n, k, i), m.mend(v, s, o, n, k, i));
                case 16 -> check("far(" + v + ", " + s + ", " + o + ")", x.far(v, s, o), m.far(v, s, o));
                default -> {
                    int cost = wild(random.nextInt(25));
                    check("near(" + v + ", " + s + ", " + cost + ")", x.near(v, s, cost), m.near(v, s, cost));
                    check("told(" + what + ")", x.told(what), m.told(what));
                }
            }
        }
    }

    /** The document's words, with no thought of speed. */
    private static final class Model {
        private static final int NONE = -6;
        private static final int UNKNOWN = -1;
        private static final int OUTSIDE = -2;
        private static final int STATE = -3;
        private static final int FULL = -4;
        private static final int NO = -5;

        private List<List<String>> code = new ArrayList<>();
        private final List<List<List<String>>> images = new ArrayList<>();
        private String pad = "";

        Model() {
            code.add(new ArrayList<>());
            images.add(null);
            images.add(null);
        }

        int lines() {
            return code.get(0).size();
        }

        int versions() {
            return code.size();
        }

        List<String> last() {
            return code.get(code.size() - 1);
        }

        private static boolean in(int a, int least, int most) {
            return least <= a && a <= most;
        }

        private boolean isVersion(int v) {
            return in(v, 0, versions() - 1);
        }

        private boolean isLine(int line) {
            return in(line, 0, lines() - 1);
        }

        int say(int sign) {
            if (!in(sign, 33, 126)) {
                return OUTSIDE;
            }
            if (pad.length() == 8) {
                return FULL;
            }
            pad += (char) sign;
            return pad.length();
        }

        int wipe() {
            int were = pad.length();
            pad = "";
            return were;
        }

        int line() {
            if (lines() == 20) {
                return FULL;
            }
            if (pad.isEmpty()) {
                return NO;
            }
            for (List<String> v : code) {
                v.add(pad);
            }
            pad = "";
            return lines() - 1;
        }

        int change(int line) {
            if (!isLine(line)) {
                return UNKNOWN;
            }
            if (pad.isEmpty()) {
                return NO;
            }
            last().set(line, pad);
            pad = "";
            return 1;
        }

        int version() {
            if (versions() == 4) {
                return FULL;
            }
            code.add(new ArrayList<>(last()));
            return versions() - 1;
        }

        private static int lookUp(String line, int i) {
            if (i == -1) {
                return line.length();
            }
            return in(i, 0, line.length() - 1) ? line.charAt(i) : NONE;
        }

        int sign(int v, int line, int i) {
            return isVersion(v) && isLine(line) ? lookUp(code.get(v).get(line), i) : UNKNOWN;
        }

        private static boolean isName(char c) {
            return "abcdefghijklmnopqrstuvwxyz".indexOf(c) >= 0;
        }

        private static boolean isNumber(char c) {
            return "0123456789".indexOf(c) >= 0;
        }

        private static String shape(String line, int way) {
            String shape = line;
            if (way >= 1) {
                shape = shape.replaceAll("[a-z]", " n");
            }
            if (way == 2) {
                shape = shape.replaceAll("[0-9]", " d");
            }
            return shape;
        }

        private static boolean areAlike(List<String> one, List<String> other, int way) {
            StringBuilder a = new StringBuilder();
            StringBuilder b = new StringBuilder();
            for (int k = 0; k < one.size(); k++) {
                if (!shape(one.get(k), way).equals(shape(other.get(k), way))) {
                    return false;
                }
                a.append(one.get(k));
                b.append(other.get(k));
            }
            for (int p = 0; p < a.length() && way > 0; p++) {
                for (int q = 0; q < p; q++) {
                    boolean both = isName(a.charAt(p)) && isName(a.charAt(q));
                    if (both && (a.charAt(p) == a.charAt(q)) != (b.charAt(p) == b.charAt(q))) {
                        return false;
                    }
                }
            }
            return true;
        }

        private boolean isThere(int start, int n) {
            return start >= 0 && start + n <= lines();
        }

        private List<String> row(int v, int start, int n) {
            return code.get(v).subList(start, start + n);
        }

        private boolean alikeRows(int v, int way, int i, int j, int n) {
            return isThere(i, n) && isThere(j, n) && areAlike(row(v, i, n), row(v, j, n), way);
        }

        private static boolean rowsInside(int one, int other, int n) {
            return in(one, 0, 19) && in(other, 0, 19) && in(n, 1, 20);
        }

        int alike(int v, int way, int one, int other, int n) {
            if (!isVersion(v)) {
                return UNKNOWN;
            }
            if (!in(way, 0, 2) || !rowsInside(one, other, n)) {
                return OUTSIDE;
            }
            return alikeRows(v, way, one, other, n) ? 1 : 0;
        }

        int longest(int v, int way, int what) {
            if (!isVersion(v)) {
                return UNKNOWN;
            }
            if (!in(way, 0, 2) || !in(what, 0, 2)) {
                return OUTSIDE;
            }
            for (int n = 10; n >= 1; n--) {
                for (int i = 0; i < 20; i++) {
                    for (int j = i + n; j < 20; j++) {
                        if (alikeRows(v, way, i, j, n)) {
                            return new int[] {n, i, j}[what];
                        }
                    }
                }
            }
            return NONE;
        }

        private Set<Integer> likeSet(int v, int way, int start, int n) {
            Set<Integer> set = new HashSet<>();
            for (int j = 0; j < 20; j++) {
                if (alikeRows(v, way, start, j, n)) {
                    set.add(j);
                }
            }
            return set;
        }

        private static int bits(Iterable<Integer> set) {
            int bits = 0;
            for (int i : set) {
                bits |= 1 << i;
            }
            return bits;
        }

        int like(int v, int way, int start, int n) {
            if (!isVersion(v)) {
                return UNKNOWN;
            }
            if (!in(way, 0, 2) || !rowsInside(start, 0, n)) {
                return OUTSIDE;
            }
            return bits(likeSet(v, way, start, n));
        }

        int groups(int v, int way, int n, int i) {
            if (!isVersion(v)) {
                return UNKNOWN;
            }
            if (!in(way, 0, 2) || !in(n, 1, 20)) {
                return OUTSIDE;
            }
            Map<Integer, Set<Integer>> byLeast = new TreeMap<>();
            for (int start = 0; start < 20; start++) {
                Set<Integer> set = likeSet(v, way, start, n);
                if (set.size() >= 2) {
                    byLeast.put(set.stream().min(Integer::compare).get(), set);
                }
            }
            List<Integer> least = new ArrayList<>(byLeast.keySet());
            if (i == -1) {
                return least.size();
            }
            return in(i, 0, least.size() - 1) ? least.get(i) : NONE;
        }

        int whole(int v, int way, int start, int n) {
            if (!isVersion(v)) {
                return UNKNOWN;
            }
            if (!in(way, 0, 2) || !rowsInside(start, 0, n)) {
                return OUTSIDE;
            }
            Set<Integer> set = likeSet(v, way, start, n);
            if (set.size() < 2) {
                return NO;
            }
            int least = set.stream().min(Integer::compare).get();
            if (likeSet(v, way, least, n + 1).equals(set)) {
                return 0;
            }
            Set<Integer> ahead = new HashSet<>();
            for (int s : set) {
                ahead.add(s - 1);
            }
            return least > 0 && likeSet(v, way, least - 1, n + 1).equals(ahead) ? 0 : 1;
        }

        private List<Integer> taken(int v, int way, int start, int n) {
            List<Integer> taken = new ArrayList<>();
            Set<Integer> set = likeSet(v, way, start, n);
            for (int s = 0; s < 20; s++) {
                boolean free = true;
                for (int t : taken) {
                    free &= Math.abs(s - t) >= n;
                }
                if (set.contains(s) && free) {
                    taken.add(s);
                }
            }
            return taken;
        }

        private int toldOf(int v, List<Integer> taken, int n) {
            Set<String> unlike = new HashSet<>();
            for (int k = 0; k < n; k++) {
                for (int p = 0; p < code.get(v).get(taken.get(0) + k).length(); p++) {
                    StringBuilder signs = new StringBuilder();
                    for (int t : taken) {
                        signs.append(code.get(v).get(t + k).charAt(p));
                    }
                    if (signs.chars().distinct().count() > 1) {
                        unlike.add(signs.toString());
                    }
                }
            }
            return unlike.size();
        }

        private int savesOf(int v, List<Integer> taken, int n) {
            return n * taken.size() - (n + 1) - taken.size() - toldOf(v, taken, n);
        }

        int pulled(int v, int way, int start, int n, int what) {
            if (!isVersion(v)) {
                return -1001;
            }
            if (!in(way, 0, 2) || !rowsInside(start, 0, n) || !in(what, 0, 2)) {
                return -1002;
            }
            List<Integer> taken = taken(v, way, start, n);
            if (taken.size() < 2) {
                return -1005;
            }
            if (what == 0) {
                return bits(taken);
            }
            return what == 1 ? toldOf(v, taken, n) : savesOf(v, taken, n);
        }

        int best(int v, int way, int what) {
            if (!isVersion(v)) {
                return UNKNOWN;
            }
            if (!in(way, 0, 2) || !in(what, 0, 2)) {
                return OUTSIDE;
            }
            int[] best = {0, NONE, NONE};
            for (int n = 1; n <= 20; n++) {
                for (int start = 0; start < 20; start++) {
                    int saves = pulled(v, way, start, n, 2);
                    if (saves > best[0]) {
                        best = new int[] {saves, start, n};
                    }
                }
            }
            return best[0] > 0 ? best[what] : NONE;
        }

        int two(int v, int way) {
            if (!isVersion(v)) {
                return UNKNOWN;
            }
            if (!in(way, 0, 2)) {
                return OUTSIDE;
            }
            List<int[]> all = new ArrayList<>();
            for (int n = 1; n <= 20; n++) {
                for (int start = 0; start < 20; start++) {
                    List<Integer> taken = taken(v, way, start, n);
                    if (taken.size() >= 2) {
                        int lines = 0;
                        for (int t : taken) {
                            for (int k = 0; k < n; k++) {
                                lines |= 1 << t + k;
                            }
                        }
                        all.add(new int[] {savesOf(v, taken, n), lines});
                    }
                }
            }
            int most = 0;
            for (int[] a : all) {
                most = Math.max(most, a[0]);
                for (int[] b : all) {
                    if ((a[1] & b[1]) == 0) {
                        most = Math.max(most, a[0] + b[0]);
                    }
                }
            }
            return most;
        }

        int forgotten(int v, int one, int other, int n, int what) {
            if (!isVersion(v)) {
                return UNKNOWN;
            }
            if (!rowsInside(one, other, n) || !in(what, 0, 1)) {
                return OUTSIDE;
            }
            if (Math.abs(one - other) < n || !isThere(one, n) || !isThere(other, n) || alikeRows(v, 1, one, other, n)) {
                return NONE;
            }
            for (int k = 0; k < n; k++) {
                String line = code.get(v).get(other + k);
                for (int p = 0; p < line.length(); p++) {
                    for (char c = 'a'; c <= 'z' && isName(line.charAt(p)); c++) {
                        List<String> tried = new ArrayList<>(row(v, other, n));
                        tried.set(k, line.substring(0, p) + c + line.substring(p + 1));
                        if (areAlike(row(v, one, n), tried, 1)) {
                            return what == 0 ? 10 * k + p : c;
                        }
                    }
                }
            }
            return NONE;
        }

        int parted(int way, int one, int other, int n) {
            if (!in(way, 0, 2) || !rowsInside(one, other, n)) {
                return OUTSIDE;
            }
            for (int v = 1; v < versions(); v++) {
                for (int u = 0; u < v; u++) {
                    if (alikeRows(u, way, one, other, n) && !alikeRows(v, way, one, other, n)) {
                        return v;
                    }
                }
            }
            return NONE;
        }

        private String mended(int v, int one, int other, int n, int k) {
            if (!alikeRows(v, 1, one, other, n)) {
                return null;
            }
            String now = code.get(v + 1).get(one + k);
            String then = code.get(v).get(one + k);
            if (now.equals(then) || !code.get(v + 1).get(other + k).equals(code.get(v).get(other + k))) {
                return null;
            }
            Map<Character, Character> beside = new HashMap<>();
            String a = String.join("", row(v, one, n));
            String b = String.join("", row(v, other, n));
            for (int p = 0; p < a.length(); p++) {
                if (isName(a.charAt(p))) {
                    beside.put(a.charAt(p), b.charAt(p));
                }
            }
            StringBuilder read = new StringBuilder();
            for (char c : now.toCharArray()) {
                read.append(beside.getOrDefault(c, c));
            }
            return read.toString();
        }

        int mends(int v, int one, int other, int n) {
            if (!in(v, 0, versions() - 2)) {
                return UNKNOWN;
            }
            if (!rowsInside(one, other, n)) {
                return OUTSIDE;
            }
            int bits = 0;
            for (int k = 0; k < n; k++) {
                bits |= mended(v, one, other, n, k) == null ? 0 : 1 << k;
            }
            return bits;
        }

        int mend(int v, int one, int other, int n, int k, int i) {
            if (!in(v, 0, versions() - 2)) {
                return UNKNOWN;
            }
            if (!rowsInside(one, other, n) || !in(k, 0, n - 1)) {
                return OUTSIDE;
            }
            String read = mended(v, one, other, n, k);
            return read == null ? NO : lookUp(read, i);
        }

        private static int cost(char a, char b) {
            if (a == b) {
                return 0;
            }
            return isName(a) && isName(b) || isNumber(a) && isNumber(b) ? 1 : 3;
        }

        private static int farOf(String a, String b, Map<String, Integer> known) {
            if (a.isEmpty() || b.isEmpty()) {
                return 2 * (a.length() + b.length());
            }
            String key = a + " " + b;
            Integer had = known.get(key);
            if (had == null) {
                String restA = a.substring(1);
                String restB = b.substring(1);
                int swapped = cost(a.charAt(0), b.charAt(0)) + farOf(restA, restB, known);
                int moved = 2 + Math.min(farOf(restA, b, known), farOf(a, restB, known));
                had = Math.min(swapped, moved);
                known.put(key, had);
            }
            return had;
        }

        int far(int v, int line, int other) {
            if (!isVersion(v) || !isLine(line) || !isLine(other)) {
                return UNKNOWN;
            }
            return farOf(code.get(v).get(line), code.get(v).get(other), new HashMap<>());
        }

        int near(int v, int line, int cost) {
            if (!isVersion(v) || !isLine(line)) {
                return UNKNOWN;
            }
            if (!in(cost, 0, 24)) {
                return OUTSIDE;
            }
            int bits = 0;
            for (int other = 0; other < lines(); other++) {
                bits |= far(v, line, other) <= cost ? 1 << other : 0;
            }
            return bits;
        }

        private static List<List<String>> copy(List<List<String>> of) {
            List<List<String>> copy = new ArrayList<>();
            for (List<String> v : of) {
                copy.add(new ArrayList<>(v));
            }
            return copy;
        }

        int image(int n) {
            if (!in(n, 0, 1)) {
                return OUTSIDE;
            }
            images.set(n, copy(code));
            return 1;
        }

        int restore(int n) {
            if (!in(n, 0, 1)) {
                return OUTSIDE;
            }
            if (images.get(n) == null) {
                return STATE;
            }
            code = copy(images.get(n));
            return 1;
        }

        int told(int what) {
            return in(what, 0, 2) ? Arrays.asList(pad.length(), lines(), versions()).get(what) : OUTSIDE;
        }
    }
}

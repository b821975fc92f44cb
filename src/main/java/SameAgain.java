/** Lines of code that were copied and then changed, version after version: which rows of them are the same again. */
public final class SameAgain {
    public static final int NONE = -6, UNKNOWN = -1, OUTSIDE = -2, STATE = -3, FULL = -4, NO = -5;

    private static final int MOST_LINES = 20;
    private static final int MOST_SIGNS = 8;
    private static final int MOST_VERSIONS = 4;
    private static final int MOST_COST = 24;
    private static final int LETTERS = 26;
    private static final int FIRST_SIGN = 33;
    private static final int LAST_SIGN = 126;

    /** What stands where there is no sign: no sign has this code. */
    private static final int NO_SIGN = 0;
    /** What a refusal is when there is none: no refusal has this number. */
    private static final int ALLOWED = 0;
    /** SAVES may be as low as the refusals are, so pulled answers these that far below. */
    private static final int BELOW_ALL_SAVES = -1000;
    /** A place in a row is told as ten times its line and its place in that line. */
    private static final int PLACES_OF_A_LINE = 10;

    private static final int WAY_SAME = 0;
    private static final int WAY_RENAMED = 1;
    private static final int WAY_ANY_NUMBER = 2;

    private final Code code;
    private final Code imageZero;
    private final Code imageOne;
    private boolean keptZero;
    private boolean keptOne;
    private final int[] pad;
    private int padSize;
    private final Likeness likeness;
    private final Procedure procedure;
    private final Plan plan;
    private final Slip slip;
    private final Distance distance;

    public SameAgain() {
        code = new Code();
        imageZero = new Code();
        imageOne = new Code();
        pad = new int[MOST_SIGNS];
        likeness = new Likeness(code);
        procedure = new Procedure(code, likeness);
        plan = new Plan(code, likeness, procedure);
        slip = new Slip(code, likeness);
        distance = new Distance(code);
    }

    // ---- 1 lines, versions

    public int say(int sign) {
        if (sign < FIRST_SIGN || sign > LAST_SIGN) {
            return OUTSIDE;
        }
        if (padSize < 0 || padSize >= MOST_SIGNS) {
            return FULL;
        }
        pad[padSize] = sign;
        padSize++;
        return padSize;
    }

    public int wipe() {
        int gone = padSize;
        padSize = 0;
        return gone;
    }

    public int line() {
        if (code.lines() >= MOST_LINES) {
            return FULL;
        }
        if (padSize == 0) {
            return NO;
        }
        int number = code.lines();
        code.addLine(pad, padSize);
        padSize = 0;
        return number;
    }

    public int change(int line) {
        if (!code.hasLine(line)) {
            return UNKNOWN;
        }
        if (padSize == 0) {
            return NO;
        }
        code.write(code.versions() - 1, line, pad, padSize);
        padSize = 0;
        return 1;
    }

    public int version() {
        if (code.versions() >= MOST_VERSIONS) {
            return FULL;
        }
        code.addVersion();
        return code.versions() - 1;
    }

    public int sign(int version, int line, int i) {
        if (!code.hasVersion(version) || !code.hasLine(line)) {
            return UNKNOWN;
        }
        if (i == -1) {
            return code.sizeOf(version, line);
        }
        int found = code.signAt(version, line, i);
        return found == NO_SIGN ? NONE : found;
    }

    public int alike(int version, int way, int one, int other, int length) {
        int refusal = refusalIn(version, isWay(way) && areRows(one, other, length));
        if (refusal != ALLOWED) {
            return refusal;
        }
        return likeness.rowsAlike(version, way, one, other, length) ? 1 : 0;
    }

    // ---- 2 groups

    public int longest(int version, int way, int what) {
        int refusal = refusalIn(version, isWay(way) && isUpTo(what, 2));
        if (refusal != ALLOWED) {
            return refusal;
        }
        likeness.compareAll(version, way);
        likeness.seekLongest();
        if (likeness.longestLength == 0) {
            return NONE;
        }
        if (what == 0) {
            return likeness.longestLength;
        }
        return what == 1 ? likeness.longestOne : likeness.longestOther;
    }

    public int like(int version, int way, int start, int length) {
        int refusal = refusalIn(version, isWay(way) && isStart(start) && isLength(length));
        if (refusal != ALLOWED) {
            return refusal;
        }
        likeness.compareAll(version, way);
        return likeness.startsLike(start, length);
    }

    public int groups(int version, int way, int length, int i) {
        int refusal = refusalIn(version, isWay(way) && isLength(length));
        if (refusal != ALLOWED) {
            return refusal;
        }
        likeness.compareAll(version, way);
        int count = 0;
        for (int start = 0; start < code.lines(); start++) {
            if (likeness.isLeastOfGroup(start, length)) {
                if (count == i) {
                    return start;
                }
                count++;
            }
        }
        return i == -1 ? count : NONE;
    }

    public int whole(int version, int way, int start, int length) {
        int refusal = refusalIn(version, isWay(way) && isStart(start) && isLength(length));
        if (refusal != ALLOWED) {
            return refusal;
        }
        likeness.compareAll(version, way);
        int group = likeness.startsLike(start, length);
        if (Integer.bitCount(group) < 2) {
            return NO;
        }
        return likeness.isWithinLonger(group, length) ? 0 : 1;
    }

    // ---- 3 pulled out

    public int pulled(int version, int way, int start, int length, int what) {
        boolean inside = isWay(way) && isStart(start) && isLength(length) && isUpTo(what, 2);
        int refusal = refusalIn(version, inside);
        if (refusal != ALLOWED) {
            return BELOW_ALL_SAVES + refusal;
        }
        likeness.compareAll(version, way);
        procedure.pullOut(version, start, length);
        if (procedure.takenCount < 2) {
            return BELOW_ALL_SAVES + NO;
        }
        if (what == 0) {
            return procedure.takenStarts;
        }
        return what == 1 ? procedure.toldCount : procedure.saved;
    }

    public int best(int version, int way, int what) {
        int refusal = refusalIn(version, isWay(way) && isUpTo(what, 2));
        if (refusal != ALLOWED) {
            return refusal;
        }
        likeness.compareAll(version, way);
        plan.lookAtAll(version);
        if (plan.bestSaved == 0) {
            return NONE;
        }
        if (what == 0) {
            return plan.bestSaved;
        }
        return what == 1 ? plan.bestStart : plan.bestLength;
    }

    public int two(int version, int way) {
        int refusal = refusalIn(version, isWay(way));
        if (refusal != ALLOWED) {
            return refusal;
        }
        likeness.compareAll(version, way);
        plan.lookAtAll(version);
        return plan.bestSumOfTwo();
    }

    // ---- 4 forgotten, mended

    public int forgotten(int version, int one, int other, int length, int what) {
        int refusal = refusalIn(version, areRows(one, other, length) && isUpTo(what, 1));
        if (refusal != ALLOWED) {
            return refusal;
        }
        slip.seek(version, one, other, length);
        if (slip.name == NO_SIGN) {
            return NONE;
        }
        return what == 0 ? slip.place : slip.name;
    }

    public int parted(int way, int one, int other, int length) {
        if (!isWay(way) || !areRows(one, other, length)) {
            return OUTSIDE;
        }
        boolean wereAlike = false;
        for (int version = 0; version < code.versions(); version++) {
            boolean areAlike = likeness.rowsAlike(version, way, one, other, length);
            if (wereAlike && !areAlike) {
                return version;
            }
            wereAlike = areAlike;
        }
        return NONE;
    }

    public int mends(int version, int one, int other, int length) {
        int refusal = refusalBehind(version, areRows(one, other, length));
        if (refusal != ALLOWED) {
            return refusal;
        }
        if (!likeness.rowsAlike(version, WAY_RENAMED, one, other, length)) {
            return 0;
        }
        int found = 0;
        for (int k = 0; k < length; k++) {
            if (wasMendedInFirstAlone(version, one + k, other + k)) {
                found |= 1 << k;
            }
        }
        return found;
    }

    public int mend(int version, int one, int other, int length, int k, int i) {
        int refusal = refusalBehind(version, areRows(one, other, length) && isUpTo(k, length - 1));
        if (refusal != ALLOWED) {
            return refusal;
        }
        if (!likeness.rowsAlike(version, WAY_RENAMED, one, other, length)) {
            return NO;
        }
        if (!wasMendedInFirstAlone(version, one + k, other + k)) {
            return NO;
        }
        if (i == -1) {
            return code.sizeOf(version + 1, one + k);
        }
        int found = code.signAt(version + 1, one + k, i);
        return found == NO_SIGN ? NONE : likeness.pairing.renamed(found);
    }

    public int far(int version, int line, int other) {
        if (!code.hasVersion(version) || !code.hasLine(line) || !code.hasLine(other)) {
            return UNKNOWN;
        }
        return distance.between(version, line, other);
    }

    public int near(int version, int line, int cost) {
        if (!code.hasVersion(version) || !code.hasLine(line)) {
            return UNKNOWN;
        }
        if (!isUpTo(cost, MOST_COST)) {
            return OUTSIDE;
        }
        int found = 0;
        for (int other = 0; other < code.lines(); other++) {
            if (distance.between(version, line, other) <= cost) {
                found |= 1 << other;
            }
        }
        return found;
    }

    public int image(int n) {
        if (!isUpTo(n, 1)) {
            return OUTSIDE;
        }
        if (n == 0) {
            imageZero.becomeAs(code);
            keptZero = true;
        } else {
            imageOne.becomeAs(code);
            keptOne = true;
        }
        return 1;
    }

    public int restore(int n) {
        if (!isUpTo(n, 1)) {
            return OUTSIDE;
        }
        boolean kept = n == 0 ? keptZero : keptOne;
        if (!kept) {
            return STATE;
        }
        code.becomeAs(n == 0 ? imageZero : imageOne);
        return 1;
    }

    public int told(int what) {
        switch (what) {
            case 0:
                return padSize;
            case 1:
                return code.lines();
            case 2:
                return code.versions();
            default:
                return OUTSIDE;
        }
    }

    // ---- what may be asked

    private int refusalIn(int version, boolean inside) {
        if (!code.hasVersion(version)) {
            return UNKNOWN;
        }
        return inside ? ALLOWED : OUTSIDE;
    }

    /** The last version has none behind it, so it is unknown to the calls that look at two. */
    private int refusalBehind(int version, boolean inside) {
        return version == code.versions() - 1 ? UNKNOWN : refusalIn(version, inside);
    }

    private static boolean isUpTo(int number, int most) {
        return number >= 0 && number <= most;
    }

    private static boolean isWay(int way) {
        return isUpTo(way, WAY_ANY_NUMBER);
    }

    private static boolean isStart(int start) {
        return isUpTo(start, MOST_LINES - 1);
    }

    private static boolean isLength(int length) {
        return length >= 1 && length <= MOST_LINES;
    }

    private static boolean areRows(int one, int other, int length) {
        return isStart(one) && isStart(other) && isLength(length);
    }

    private boolean wasMendedInFirstAlone(int version, int one, int other) {
        return !code.staysAsItIs(version, one) && code.staysAsItIs(version, other);
    }

    private static boolean isName(int sign) {
        return sign >= 'a' && sign <= 'z';
    }

    private static boolean isNumber(int sign) {
        return sign >= '0' && sign <= '9';
    }

    /** The lines in all their versions. */
    private static final class Code {
        private final int[] signs = new int[MOST_VERSIONS * MOST_LINES * MOST_SIGNS];
        private final int[] sizes = new int[MOST_VERSIONS * MOST_LINES];
        private int lineCount = 0;
        private int versionCount = 1;

        int lines() {
            return lineCount;
        }

        int versions() {
            return versionCount;
        }

        boolean hasVersion(int version) {
            return version >= 0 && version < versionCount;
        }

        boolean hasLine(int line) {
            return line >= 0 && line < lineCount;
        }

        int sizeOf(int version, int line) {
            if (version < 0 || version >= versionCount || line < 0 || line >= lineCount) {
                return 0;
            }
            return sizes[version * MOST_LINES + line];
        }

        int signAt(int version, int line, int place) {
            if (version < 0 || version >= versionCount || line < 0 || line >= lineCount) {
                return NO_SIGN;
            }
            int slot = version * MOST_LINES + line;
            return place >= 0 && place < sizes[slot] ? signs[slot * MOST_SIGNS + place] : NO_SIGN;
        }

        void write(int version, int line, int[] from, int size) {
            if (!hasVersion(version) || !hasLine(line) || size < 0 || size > MOST_SIGNS || size > from.length) {
                return;
            }
            int slot = version * MOST_LINES + line;
            System.arraycopy(from, 0, signs, slot * MOST_SIGNS, size);
            sizes[slot] = size;
        }

        void addLine(int[] from, int size) {
            if (lineCount >= MOST_LINES) {
                return;
            }
            lineCount++;
            for (int version = 0; version < versionCount; version++) {
                write(version, lineCount - 1, from, size);
            }
        }

        void addVersion() {
            if (versionCount < 1 || versionCount >= MOST_VERSIONS) {
                return;
            }
            int slot = (versionCount - 1) * MOST_LINES;
            int next = versionCount * MOST_LINES;
            System.arraycopy(sizes, slot, sizes, next, MOST_LINES);
            System.arraycopy(signs, slot * MOST_SIGNS, signs, next * MOST_SIGNS, MOST_LINES * MOST_SIGNS);
            versionCount++;
        }

        void becomeAs(Code other) {
            System.arraycopy(other.signs, 0, signs, 0, signs.length);
            System.arraycopy(other.sizes, 0, sizes, 0, sizes.length);
            lineCount = other.lineCount;
            versionCount = other.versionCount;
        }

        boolean staysAsItIs(int version, int line) {
            int size = sizeOf(version, line);
            if (sizeOf(version + 1, line) != size) {
                return false;
            }
            for (int place = 0; place < size; place++) {
                if (signAt(version, line, place) != signAt(version + 1, line, place)) {
                    return false;
                }
            }
            return true;
        }
    }

    /** Names of one row beside the names of another, one for one. */
    private static final class Pairing {
        private final int[] partners = new int[LETTERS];
        private int namesOfOne = 0;
        private int namesOfOther = 0;

        void clear() {
            namesOfOne = 0;
            namesOfOther = 0;
        }

        boolean join(int one, int other) {
            if (!isName(one) || !isName(other)) {
                return false;
            }
            int bitOfOne = 1 << (one - 'a');
            int bitOfOther = 1 << (other - 'a');
            if ((namesOfOne & bitOfOne) != 0) {
                return partners[one - 'a'] == other;
            }
            if ((namesOfOther & bitOfOther) != 0) {
                return false;
            }
            namesOfOne |= bitOfOne;
            namesOfOther |= bitOfOther;
            partners[one - 'a'] = other;
            return true;
        }

        boolean hasPartner(int one) {
            return isName(one) && (namesOfOne & 1 << (one - 'a')) != 0;
        }

        int renamed(int sign) {
            return hasPartner(sign) ? partners[sign - 'a'] : sign;
        }

        int firstNameThatFits(int one) {
            if (hasPartner(one)) {
                return renamed(one);
            }
            for (int letter = 0; letter < LETTERS; letter++) {
                if ((namesOfOther & 1 << letter) == 0) {
                    return 'a' + letter;
                }
            }
            return NO_SIGN;
        }
    }

    /** Which rows are alike. */
    private static final class Likeness {
        private static final int NO_PLACE = -1;

        private final Code code;
        private final Pairing pairing = new Pairing();
        /** Of each two starts, how many lines from there on are alike: rows up to that length are, longer ones not. */
        private final int[] reach = new int[MOST_LINES * MOST_LINES];
        private int longestLength = 0;
        private int longestOne = 0;
        private int longestOther = 0;

        Likeness(Code code) {
            this.code = code;
        }

        /** Afterwards the pairing holds the names of the rows, if they are alike by a way that renames. */
        boolean rowsAlike(int version, int way, int one, int other, int length) {
            return areThere(one, other, length) && linesAlike(version, way, one, other, length) == length;
        }

        boolean areThere(int one, int other, int length) {
            return one >= 0 && other >= 0 && Math.max(one, other) + length <= code.lines();
        }

        /** Whether all is alike by way 1 but for one place, told as the document tells a place. */
        boolean rowsAlikeBut(int version, int one, int other, int length, int leftOut) {
            pairing.clear();
            for (int k = 0; k < length; k++) {
                int placeLeftOut = leftOut - k * PLACES_OF_A_LINE;
                if (!lineFits(version, WAY_RENAMED, one + k, other + k, placeLeftOut)) {
                    return false;
                }
            }
            return true;
        }

        private int linesAlike(int version, int way, int one, int other, int most) {
            pairing.clear();
            for (int k = 0; k < most; k++) {
                if (!lineFits(version, way, one + k, other + k, NO_PLACE)) {
                    return k;
                }
            }
            return most;
        }

        private boolean lineFits(int version, int way, int one, int other, int placeLeftOut) {
            int size = code.sizeOf(version, one);
            if (code.sizeOf(version, other) != size) {
                return false;
            }
            for (int place = 0; place < size; place++) {
                int signOfOne = code.signAt(version, one, place);
                int signOfOther = code.signAt(version, other, place);
                if (place != placeLeftOut && !signFits(way, signOfOne, signOfOther)) {
                    return false;
                }
            }
            return true;
        }

        private boolean signFits(int way, int one, int other) {
            if (way == WAY_SAME) {
                return one == other;
            }
            if (isName(one)) {
                return pairing.join(one, other);
            }
            if (way == WAY_ANY_NUMBER && isNumber(one)) {
                return isNumber(other);
            }
            return one == other;
        }

        void compareAll(int version, int way) {
            int lines = code.lines();
            for (int one = 0; one < lines; one++) {
                setReach(one, one, lines - one);
                for (int other = one + 1; other < lines; other++) {
                    int length = linesAlike(version, way, one, other, lines - other);
                    setReach(one, other, length);
                    setReach(other, one, length);
                }
            }
        }

        private void setReach(int one, int other, int length) {
            if (code.hasLine(one) && code.hasLine(other)) {
                reach[one * MOST_LINES + other] = length;
            }
        }

        private int reachOf(int one, int other) {
            return code.hasLine(one) && code.hasLine(other) ? reach[one * MOST_LINES + other] : 0;
        }

        void seekLongest() {
            longestLength = 0;
            for (int one = 0; one < code.lines(); one++) {
                for (int other = one + 1; other < code.lines(); other++) {
                    int length = Math.min(reachOf(one, other), other - one);
                    if (length > longestLength) {
                        longestLength = length;
                        longestOne = one;
                        longestOther = other;
                    }
                }
            }
        }

        int startsLike(int start, int length) {
            int found = 0;
            for (int other = 0; other < code.lines(); other++) {
                if (reachOf(start, other) >= length) {
                    found |= 1 << other;
                }
            }
            return found;
        }

        boolean isLeastOfGroup(int start, int length) {
            int found = startsLike(start, length);
            return Integer.bitCount(found) >= 2 && leastOf(found) == start;
        }

        private static int leastOf(int starts) {
            int least = 0;
            while (least < MOST_LINES && (starts & 1 << least) == 0) {
                least++;
            }
            return least;
        }

        /** Whether all rows of the group could have one line more, behind or ahead. */
        boolean isWithinLonger(int group, int length) {
            int least = leastOf(group);
            if (startsLike(least, length + 1) == group) {
                return true;
            }
            return least > 0 && startsLike(least - 1, length + 1) == group >> 1;
        }
    }

    /** One procedure in the place of all rows of a group that do not cross. */
    private static final class Procedure {
        private final Code code;
        private final Likeness likeness;
        private final int[] starts = new int[MOST_LINES];
        private int versionAt = 0;
        private int takenCount = 0;
        private int takenStarts = 0;
        private int takenLines = 0;
        private int toldCount = 0;
        private int saved = 0;

        Procedure(Code code, Likeness likeness) {
            this.code = code;
            this.likeness = likeness;
        }

        /** The likeness must have compared all lines of the version before. */
        void pullOut(int version, int start, int length) {
            versionAt = version;
            take(likeness.startsLike(start, length), length);
            countTold(length);
            saved = takenCount * length - (length + 1) - takenCount - toldCount;
        }

        private void take(int group, int length) {
            takenCount = 0;
            takenStarts = 0;
            takenLines = 0;
            for (int start = 0; start < MOST_LINES; start++) {
                int lines = (1 << length) - 1 << start;
                if ((group & 1 << start) != 0 && (takenLines & lines) == 0 && takenCount < starts.length) {
                    starts[takenCount] = start;
                    takenCount++;
                    takenStarts |= 1 << start;
                    takenLines |= lines;
                }
            }
        }

        private void countTold(int length) {
            toldCount = 0;
            for (int k = 0; k < length; k++) {
                int size = signsOfLine(k);
                for (int place = 0; place < size; place++) {
                    if (differs(k, place) && !stoodAhead(k, place)) {
                        toldCount++;
                    }
                }
            }
        }

        private int signsOfLine(int k) {
            return takenCount > 0 ? code.sizeOf(versionAt, starts[0] + k) : 0;
        }

        /** Rows that are alike differ at names and numbers alone. */
        private boolean differs(int k, int place) {
            int first = code.signAt(versionAt, starts[0] + k, place);
            for (int row = 1; row < takenCount; row++) {
                if (code.signAt(versionAt, starts[row] + k, place) != first) {
                    return true;
                }
            }
            return false;
        }

        private boolean stoodAhead(int k, int place) {
            for (int line = 0; line <= k; line++) {
                int end = line < k ? signsOfLine(line) : place;
                for (int ahead = 0; ahead < end; ahead++) {
                    if (hasSameAtBoth(line, ahead, k, place)) {
                        return true;
                    }
                }
            }
            return false;
        }

        private boolean hasSameAtBoth(int line, int ahead, int k, int place) {
            for (int row = 0; row < takenCount; row++) {
                int start = starts[row];
                if (code.signAt(versionAt, start + line, ahead) != code.signAt(versionAt, start + k, place)) {
                    return false;
                }
            }
            return true;
        }
    }

    /** All procedures that save, the best of them and the best two. */
    private static final class Plan {
        private final Code code;
        private final Likeness likeness;
        private final Procedure procedure;
        /** At each length at most half of the starts are the least ones of their groups. */
        private final int[] saves = new int[MOST_LINES * MOST_LINES / 2];
        private final int[] lines = new int[MOST_LINES * MOST_LINES / 2];
        private int count = 0;
        private int bestSaved = 0;
        private int bestStart = 0;
        private int bestLength = 0;

        Plan(Code code, Likeness likeness, Procedure procedure) {
            this.code = code;
            this.likeness = likeness;
            this.procedure = procedure;
        }

        /** The likeness must have compared all lines of the version before. */
        void lookAtAll(int version) {
            count = 0;
            bestSaved = 0;
            for (int length = 1; length <= code.lines(); length++) {
                for (int start = 0; start + length <= code.lines(); start++) {
                    if (likeness.isLeastOfGroup(start, length)) {
                        procedure.pullOut(version, start, length);
                        note(start, length);
                    }
                }
            }
        }

        private void note(int start, int length) {
            if (procedure.saved <= 0 || count >= saves.length) {
                return;
            }
            saves[count] = procedure.saved;
            lines[count] = procedure.takenLines;
            count++;
            if (procedure.saved > bestSaved) {
                bestSaved = procedure.saved;
                bestStart = start;
                bestLength = length;
            }
        }

        int bestSumOfTwo() {
            int sum = bestSaved;
            for (int one = 0; one < count; one++) {
                for (int other = one + 1; other < count; other++) {
                    if ((lines[one] & lines[other]) == 0) {
                        sum = Math.max(sum, saves[one] + saves[other]);
                    }
                }
            }
            return sum;
        }
    }

    /** A name that was forgotten at one place when a piece was copied. */
    private static final class Slip {
        private final Code code;
        private final Likeness likeness;
        private int place = 0;
        private int name = NO_SIGN;

        Slip(Code code, Likeness likeness) {
            this.code = code;
            this.likeness = likeness;
        }

        /** Afterwards the name is that of the first place that was forgotten, or no sign. */
        void seek(int version, int one, int other, int length) {
            name = NO_SIGN;
            if (Math.abs(one - other) < length || !likeness.areThere(one, other, length)) {
                return;
            }
            if (likeness.rowsAlike(version, WAY_RENAMED, one, other, length)) {
                return;
            }
            for (int k = 0; k < length && name == NO_SIGN; k++) {
                int size = code.sizeOf(version, other + k);
                for (int i = 0; i < size && name == NO_SIGN; i++) {
                    int signOfOne = code.signAt(version, one + k, i);
                    int signOfOther = code.signAt(version, other + k, i);
                    place = k * PLACES_OF_A_LINE + i;
                    if (isName(signOfOne) && isName(signOfOther)
                            && likeness.rowsAlikeBut(version, one, other, length, place)) {
                        name = likeness.pairing.firstNameThatFits(signOfOne);
                    }
                }
            }
        }
    }

    /** The least cost of making one line of another. */
    private static final class Distance {
        private static final int WIDTH = MOST_SIGNS + 1;
        private static final int IN_OR_OUT = 2;
        private static final int SAME_KIND = 1;
        private static final int OTHER_KIND = 3;

        private final Code code;
        /** The cost of making the first signs of one of the first signs of the other, by how many of each. */
        private final int[] costs = new int[WIDTH * WIDTH];

        Distance(Code code) {
            this.code = code;
        }

        int between(int version, int line, int other) {
            int rows = Math.min(code.sizeOf(version, line), MOST_SIGNS);
            int columns = Math.min(code.sizeOf(version, other), MOST_SIGNS);
            for (int row = 0; row <= rows; row++) {
                costs[row * WIDTH] = row * IN_OR_OUT;
            }
            for (int column = 0; column <= columns; column++) {
                costs[column] = column * IN_OR_OUT;
            }
            for (int row = 1; row <= rows; row++) {
                int sign = code.signAt(version, line, row - 1);
                for (int column = 1; column <= columns; column++) {
                    int at = row * WIDTH + column;
                    int swap = costs[at - WIDTH - 1] + swapCost(sign, code.signAt(version, other, column - 1));
                    int inOrOut = Math.min(costs[at - 1], costs[at - WIDTH]) + IN_OR_OUT;
                    costs[at] = Math.min(swap, inOrOut);
                }
            }
            return costs[rows * WIDTH + columns];
        }

        private static int swapCost(int one, int other) {
            if (one == other) {
                return 0;
            }
            boolean sameKind = isName(one) && isName(other) || isNumber(one) && isNumber(other);
            return sameKind ? SAME_KIND : OTHER_KIND;
        }
    }
}

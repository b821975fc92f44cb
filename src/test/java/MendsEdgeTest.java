/** The edges that promises 16 to 24 and their terms name: FORGOTTEN, PARTED, MENDS, FAR, NEAR, images, what is told. */
public final class MendsEdgeTest {
    private static final int NONE = SameAgain.NONE;
    private static final int UNKNOWN = SameAgain.UNKNOWN;
    private static final int OUTSIDE = SameAgain.OUTSIDE;
    private static final int STATE = SameAgain.STATE;
    private static final int FULL = SameAgain.FULL;
    private static final int NO = SameAgain.NO;
    private static final int MOST = Integer.MAX_VALUE;
    private static final int LEAST = Integer.MIN_VALUE;
    private static final int[] NOT_ZERO_TO_ONE = {LEAST, -1, 2, MOST};
    private static final int[] NOT_ZERO_TO_TWO = {LEAST, -1, 3, MOST};
    private static final int[] NOT_A_START = {LEAST, -1, 20, 21, MOST};
    private static final int[] NOT_A_LENGTH = {LEAST, -1, 0, 21, MOST};
    private static final int[] NOT_A_VERSION = {LEAST, -1, 1, 4, MOST};

    private static final Due due = new Due();

    public static void main(String[] args) {
        forgottenRowsShareNoLine();
        forgottenRowsAreWhollyThere();
        forgottenIsNotAlike();
        forgottenIsJustOneName();
        forgottenOfSeveralTheFirst();
        forgottenFirstNameThatFits();
        forgottenGreatestPlace();
        forgottenInEachVersion();
        forgottenRefused();
        partedBehindOneInWhichTheyWere();
        partedFirstOfSeveral();
        partedRowsNotWhollyThere();
        partedRefused();
        mendsOfTheLastVersion();
        mendsInTheVersionBehind();
        mendsOfTheFirstRowAlone();
        mendsAsBits();
        mendsOfRowsThatAreNotAlike();
        mendsRefused();
        mendOfTheKth();
        mendSigns();
        mendNames();
        mendRefused();
        farLeastAndMost();
        farLeastCost();
        farUnknown();
        nearEachCost();
        nearRefused();
        farAndNearInEachVersion();
        imagesZeroAndOne();
        imageThatWasNotKept();
        imageOfNothing();
        imageOfAll();
        linesThatAreGone();
        imageIsNotChanged();
        restoreLeavesThePad();
        toldEach();
        due.end();
    }

    private static SameAgain signs(String each) {
        return Due.code(Due.lines(each));
    }

    private static void isForgotten(String what, SameAgain x, int one, int other, int length, int place, int name) {
        due.is(what + ": the place", x.forgotten(0, one, other, length, 0), place);
        due.is(what + ": the NAME", x.forgotten(0, one, other, length, 1), name);
    }

    private static void forgottenRowsShareNoLine() {
        SameAgain x = Due.code("aa", "bb", "cc", "dc");
        isForgotten("16 rows that touch", x, 0, 2, 2, 11, 'd');
        isForgotten("16 rows that touch, turned round", x, 2, 0, 2, 11, 'a');
        SameAgain y = Due.code("aa", "bb", "cb");
        isForgotten("16 rows that share one", y, 0, 1, 2, NONE, NONE);
        isForgotten("16 rows that share one, turned round", y, 1, 0, 2, NONE, NONE);
        isForgotten("16 a LINE less, and they touch", y, 1, 2, 1, 0, 'b');
        SameAgain z = Due.code("+", "aa", "bb", "cb");
        isForgotten("16 rows that share one, behind the first LINE", z, 1, 2, 2, NONE, NONE);
        isForgotten("16 and turned round", z, 2, 1, 2, NONE, NONE);
        isForgotten("16 the same row", Due.code("ab"), 0, 0, 1, NONE, NONE);
    }

    private static void forgottenRowsAreWhollyThere() {
        SameAgain x = Due.code("aa", "x", "ab", "y");
        isForgotten("16 up to the end", x, 0, 2, 2, 0, 'b');
        isForgotten("16 the second beyond the end", x, 0, 3, 2, NONE, NONE);
        isForgotten("16 the first beyond the end", x, 3, 0, 2, NONE, NONE);
        isForgotten("16 right behind the end", x, 0, 4, 1, NONE, NONE);
        isForgotten("16 far behind the end", x, 0, 19, 1, NONE, NONE);
        isForgotten("16 twenty", x, 0, 19, 20, NONE, NONE);
        isForgotten("16 of no LINES", new SameAgain(), 0, 1, 1, NONE, NONE);
        SameAgain full = Due.same("aa", 20);
        Due.change(full, 19, "ab");
        isForgotten("16 the last of twenty", full, 0, 19, 1, 0, 'b');
        isForgotten("16 ten and ten", full, 0, 10, 10, 91, 'a');
        isForgotten("16 eleven and nine", full, 0, 11, 10, NONE, NONE);
    }

    private static void forgottenIsNotAlike() {
        isForgotten("16 the same", Due.code("ab", "ab"), 0, 1, 1, NONE, NONE);
        isForgotten("16 alike by WAY 1", Due.code("ab", "ba"), 0, 1, 1, NONE, NONE);
        isForgotten("16 one NAME more", Due.code("aa", "ba"), 0, 1, 1, 0, 'a');
    }

    private static void forgottenIsJustOneName() {
        isForgotten("16 two names", Due.code("aaaa", "bbcd"), 0, 1, 1, NONE, NONE);
        isForgotten("16 one of them", Due.code("aaa", "bbc"), 0, 1, 1, 2, 'b');
        isForgotten("16 and a number", Due.code("aa1", "ab2"), 0, 1, 1, NONE, NONE);
        isForgotten("16 and a mark", Due.code("aa+", "ab-"), 0, 1, 1, NONE, NONE);
        isForgotten("16 a number alone", Due.code("aa1", "aa2"), 0, 1, 1, NONE, NONE);
        isForgotten("16 and a sign more", Due.code("aa", "abc"), 0, 1, 1, NONE, NONE);
        isForgotten("16 a NAME beside a number", Due.code("a1", "ab"), 0, 1, 1, NONE, NONE);
        isForgotten("16 a NAME beside a mark", Due.code("a+", "ab"), 0, 1, 1, NONE, NONE);
        isForgotten("16 a number beside a NAME", Due.code("ab", "a1"), 0, 1, 1, NONE, NONE);
        isForgotten("16 a mark beside a NAME", Due.code("ab", "a+"), 0, 1, 1, NONE, NONE);
        isForgotten("16 no names", signs("+-"), 0, 1, 1, NONE, NONE);
        isForgotten("16 in the second row, not in the first", Due.code("aab", "aaa"), 0, 1, 1, 2, 'b');
    }

    private static void forgottenOfSeveralTheFirst() {
        // Either c may become another name: the first one does.
        isForgotten("16 in one LINE", Due.code("(ab)", "(cc)"), 0, 1, 1, 1, 'a');
        isForgotten("16 in two LINES", Due.code("(a)", "b", "(c)", "c"), 0, 2, 2, 1, 'a');
        // The first c stands fast by another one beside it.
        isForgotten("16 just the later one", Due.code("aa", "b", "cc", "c"), 0, 2, 2, 10, 'a');
    }

    private static void forgottenFirstNameThatFits() {
        isForgotten("16 a", Due.code("bc", "dd"), 0, 1, 1, 0, 'a');
        isForgotten("16 not a, that stands beside another", Due.code("xyz", "aba"), 0, 1, 1, 0, 'c');
        isForgotten("16 not the one that stands there", Due.code("xy", "aa"), 0, 1, 1, 0, 'b');
        isForgotten("16 z, the last that is free",
            Due.code("aabcdefg", "hijklmno", "pqrstuvw", "xyz", "aabcdefg", "hijklmno", "pqrstuvw", "xya"),
            0, 4, 4, 32, 'z');
        isForgotten("16 the one that it stands beside elsewhere", Due.code("zzz", "zza"), 0, 1, 1, 2, 'z');
        isForgotten("16 in a later LINE", Due.code("q", "q", "q", "m", "n", "m"), 0, 3, 3, 10, 'm');
    }

    private static void forgottenGreatestPlace() {
        String[] one = Due.lines("abcdefghi*");
        one[9] = "*******a";
        String[] other = Due.lines("abcdefghi*");
        other[9] = "*******b";
        isForgotten("16 the eighth sign of the tenth LINE", Due.code(Due.joined(one, other)), 0, 10, 10, 97, 'a');
        isForgotten("16 the first sign of the first LINE", Due.code("abb", "bbb"), 0, 1, 1, 0, 'a');
    }

    private static void forgottenInEachVersion() {
        SameAgain x = Due.code("aa", "bb");
        x.version();
        Due.change(x, 1, "bc");
        for (int turn = 0; turn < 2; turn++) {
            for (int what = 0; what < 2; what++) {
                due.is("16 in VERSION 1, what " + what, x.forgotten(1, 0, 1, 1, what), what == 0 ? 0 : 'c');
                due.is("16 in VERSION 0, what " + what, x.forgotten(0, 0, 1, 1, what), NONE);
            }
        }
    }

    private static void farAndNearInEachVersion() {
        SameAgain x = Due.code("a", "b");
        for (int v = 1; v < 4; v++) {
            x.version();
        }
        Due.change(x, 1, "++");
        for (int turn = 0; turn < 2; turn++) {
            due.is("20 in VERSION 3", x.far(3, 0, 1), 5);
            due.is("20 in VERSION 0", x.far(0, 0, 1), 1);
            due.is("21 in VERSION 3", x.near(3, 0, 4), 0b01);
            due.is("21 in VERSION 0", x.near(0, 0, 4), 0b11);
        }
    }

    private static void forgottenRefused() {
        SameAgain x = Due.code("aa", "ab");
        for (int start : NOT_A_START) {
            due.is("16 start " + start, x.forgotten(0, start, 0, 1, 0), OUTSIDE);
            due.is("16 the other start " + start, x.forgotten(0, 0, start, 1, 0), OUTSIDE);
        }
        for (int length : NOT_A_LENGTH) {
            due.is("16 length " + length, x.forgotten(0, 0, 1, length, 0), OUTSIDE);
        }
        for (int what : NOT_ZERO_TO_ONE) {
            due.is("16 what " + what, x.forgotten(0, 0, 1, 1, what), OUTSIDE);
            due.is("16 OUTSIDE where there is none: what " + what, x.forgotten(0, 0, 0, 1, what), OUTSIDE);
        }
        for (int version : NOT_A_VERSION) {
            due.is("16 VERSION " + version, x.forgotten(version, 20, -1, 0, 2), UNKNOWN);
        }
    }

    /** LINE 0 reads a in each VERSION, LINE 1 these signs, one for each VERSION. */
    private static SameAgain versions(String signs) {
        SameAgain x = Due.code("a", signs.substring(0, 1));
        for (int v = 1; v < signs.length(); v++) {
            x.version();
            Due.change(x, 1, signs.substring(v, v + 1));
        }
        return x;
    }

    private static void partedBehindOneInWhichTheyWere() {
        due.is("17 one VERSION, alike", versions("b").parted(1, 0, 1, 1), NONE);
        due.is("17 one VERSION, unlike", versions("+").parted(1, 0, 1, 1), NONE);
        due.is("17 alike in both", versions("bc").parted(1, 0, 1, 1), NONE);
        due.is("17 in the second", versions("b+").parted(1, 0, 1, 1), 1);
        due.is("17 never alike", versions("+-").parted(1, 0, 1, 1), NONE);
        due.is("17 not alike at first, then alike", versions("+b").parted(1, 0, 1, 1), NONE);
        due.is("17 in the last of four", versions("bcd+").parted(1, 0, 1, 1), 3);
        due.is("17 alike in all four", versions("bcda").parted(1, 0, 1, 1), NONE);
        due.is("17 alike in the last of four alone", versions("+-=a").parted(1, 0, 1, 1), NONE);
        due.is("17 alike in the third of four alone", versions("+-a=").parted(1, 0, 1, 1), 3);
        due.is("17 by WAY 0", versions("aab").parted(0, 0, 1, 1), 2);
        due.is("17 not by WAY 1", versions("aab").parted(1, 0, 1, 1), NONE);
        due.is("17 a row and itself", versions("b+").parted(0, 1, 1, 1), NONE);
        SameAgain numbers = Due.code("1", "1");
        numbers.version();
        Due.change(numbers, 0, "2");
        due.is("17 the numbers part them by WAY 1", numbers.parted(1, 0, 1, 1), 1);
        due.is("17 not by WAY 2", numbers.parted(2, 0, 1, 1), NONE);
    }

    private static void partedFirstOfSeveral() {
        due.is("17 twice", versions("b+b+").parted(1, 0, 1, 1), 1);
        due.is("17 unlike for long", versions("b+-=").parted(1, 0, 1, 1), 1);
        due.is("17 alike again", versions("b+bb").parted(1, 0, 1, 1), 1);
        due.is("17 behind one that was not", versions("+b-b").parted(1, 0, 1, 1), 2);
    }

    private static void partedRowsNotWhollyThere() {
        SameAgain x = versions("b+");
        due.is("17 up to the end", x.parted(1, 0, 1, 1), 1);
        due.is("17 one beyond the end", x.parted(1, 0, 1, 2), NONE);
        due.is("17 the first beyond the end", x.parted(1, 1, 0, 2), NONE);
        due.is("17 right behind the end", x.parted(1, 0, 2, 1), NONE);
        due.is("17 far behind the end", x.parted(1, 19, 19, 20), NONE);
        Due.say(x, "a");
        x.line();
        due.is("17 a LINE that came later is in all VERSIONS", x.parted(1, 2, 1, 1), 1);
        due.is("17 rows that share a LINE", x.parted(1, 0, 1, 2), 1);
        SameAgain full = Due.same("a", 20);
        full.version();
        Due.change(full, 19, "+");
        due.is("17 ten and ten", full.parted(0, 0, 10, 10), 1);
        due.is("17 nine and nine", full.parted(0, 0, 10, 9), NONE);
        due.is("17 nineteen", full.parted(0, 0, 1, 19), 1);
        due.is("17 twenty", full.parted(0, 0, 0, 20), NONE);
    }

    private static void partedRefused() {
        SameAgain x = versions("b+");
        for (int way : NOT_ZERO_TO_TWO) {
            due.is("17 WAY " + way, x.parted(way, 0, 1, 1), OUTSIDE);
        }
        for (int start : NOT_A_START) {
            due.is("17 start " + start, x.parted(1, start, 1, 1), OUTSIDE);
            due.is("17 the other start " + start, x.parted(1, 0, start, 1), OUTSIDE);
        }
        for (int length : NOT_A_LENGTH) {
            due.is("17 length " + length, x.parted(1, 0, 1, length), OUTSIDE);
        }
    }

    private static void mendsOfTheLastVersion() {
        for (int versions = 1; versions <= 4; versions++) {
            SameAgain x = signs("ab");
            for (int v = 1; v < versions; v++) {
                x.version();
                Due.change(x, 0, "" + (char) ('a' + v));
            }
            for (int v = 0; v < versions - 1; v++) {
                due.is("18 of " + versions + ", VERSION " + v, x.mends(v, 0, 1, 1), 1);
                due.is("19 of " + versions + ", VERSION " + v, x.mend(v, 0, 1, 1, 0, -1), 1);
            }
            for (int v : new int[] {LEAST, -1, versions - 1, versions, 4, MOST}) {
                due.is("18 of " + versions + ", VERSION " + v, x.mends(v, 0, 1, 1), UNKNOWN);
                due.is("18 UNKNOWN goes ahead, VERSION " + v, x.mends(v, 20, -1, 0), UNKNOWN);
                due.is("19 of " + versions + ", VERSION " + v, x.mend(v, 0, 1, 1, 0, -1), UNKNOWN);
                due.is("19 UNKNOWN goes ahead, VERSION " + v, x.mend(v, 20, -1, 0, -1, -2), UNKNOWN);
            }
        }
    }

    private static void mendsInTheVersionBehind() {
        SameAgain x = signs("ab");
        x.version();
        x.version();
        Due.change(x, 0, "+");
        x.version();
        due.is("18 not yet", x.mends(0, 0, 1, 1), 0);
        due.is("18 right behind", x.mends(1, 0, 1, 1), 1);
        due.is("18 no more", x.mends(2, 0, 1, 1), 0);
        SameAgain same = signs("ab");
        same.version();
        Due.change(same, 0, "a");
        due.is("18 changed into the same is not another one", same.mends(0, 0, 1, 1), 0);
        due.is("19 nor is it a MEND", same.mend(0, 0, 1, 1, 0, -1), NO);
        Due.change(same, 0, "c");
        due.is("18 another NAME is another one", same.mends(0, 0, 1, 1), 1);
        Due.change(same, 0, "aa");
        due.is("18 a sign more is another one", same.mends(0, 0, 1, 1), 1);
        Due.change(same, 0, "a");
        due.is("18 as it was again", same.mends(0, 0, 1, 1), 0);
    }

    private static void mendsOfTheFirstRowAlone() {
        SameAgain x = signs("abcd");
        x.version();
        Due.change(x, 0, "1");
        Due.change(x, 1, "2");
        Due.change(x, 3, "3");
        due.is("18 the second LINE was changed in both", x.mends(0, 0, 2, 2), 0b01);
        due.is("18 turned round", x.mends(0, 2, 0, 2), 0);
        due.is("18 the second row's alone", x.mends(0, 3, 2, 1), 1);
        due.is("18 a row and itself", x.mends(0, 0, 0, 4), 0);
        due.is("19 the first LINE", x.mend(0, 0, 2, 2, 0, 0), '1');
        due.is("19 the second LINE was changed in both", x.mend(0, 0, 2, 2, 1, 0), NO);
        due.is("19 turned round", x.mend(0, 2, 0, 2, 0, 0), NO);
        due.is("19 a row and itself", x.mend(0, 0, 0, 4, 0, 0), NO);
    }

    private static void mendsAsBits() {
        SameAgain x = Due.same("a", 20);
        x.version();
        for (int line = 0; line < 10; line++) {
            due.is("18 before LINE " + line, x.mends(0, 0, 10, 10), (1 << line) - 1);
            Due.change(x, line, "b");
        }
        due.is("18 all ten", x.mends(0, 0, 10, 10), 0x3FF);
        due.is("18 nine of ten", x.mends(0, 0, 10, 9), 0x1FF);
        due.is("18 from the second on", x.mends(0, 1, 11, 9), 0x1FF);
        SameAgain y = Due.same("a", 20);
        y.version();
        Due.change(y, 0, "b");
        Due.change(y, 18, "b");
        due.is("18 rows of nineteen", y.mends(0, 0, 1, 19), 1 << 18 | 1);
        due.is("18 rows of twenty", y.mends(0, 0, 0, 20), 0);
        due.is("18 the last LINE", y.mends(0, 18, 19, 1), 1);
    }

    private static void mendsOfRowsThatAreNotAlike() {
        SameAgain x = Due.code("a1", "b2", "c1");
        x.version();
        Due.change(x, 0, "a3");
        due.is("18 alike by WAY 1", x.mends(0, 0, 2, 1), 1);
        due.is("18 alike by WAY 2 alone", x.mends(0, 0, 1, 1), 0);
        due.is("19 alike by WAY 2 alone", x.mend(0, 0, 1, 1, 0, -1), NO);
        due.is("18 up to the end", x.mends(0, 0, 2, 1), 1);
        due.is("18 one beyond the end", x.mends(0, 0, 2, 2), 0);
        due.is("19 one beyond the end", x.mend(0, 0, 2, 2, 0, -1), NO);
        due.is("18 right behind the end", x.mends(0, 0, 3, 1), 0);
        due.is("19 right behind the end", x.mend(0, 0, 3, 1, 0, -1), NO);
        due.is("18 far behind the end", x.mends(0, 19, 19, 20), 0);
        due.is("19 far behind the end", x.mend(0, 19, 19, 20, 19, -1), NO);
        SameAgain empty = new SameAgain();
        empty.version();
        due.is("18 no LINES", empty.mends(0, 0, 1, 1), 0);
        due.is("19 no LINES", empty.mend(0, 0, 1, 1, 0, -1), NO);
        // They are alike in the VERSION behind alone.
        SameAgain late = signs("+b");
        late.version();
        Due.change(late, 0, "a");
        due.is("18 alike too late", late.mends(0, 0, 1, 1), 0);
        due.is("19 alike too late", late.mend(0, 0, 1, 1, 0, 0), NO);
    }

    private static void mendsRefused() {
        SameAgain x = signs("ab");
        x.version();
        for (int start : NOT_A_START) {
            due.is("18 start " + start, x.mends(0, start, 1, 1), OUTSIDE);
            due.is("18 the other start " + start, x.mends(0, 0, start, 1), OUTSIDE);
        }
        for (int length : NOT_A_LENGTH) {
            due.is("18 length " + length, x.mends(0, 0, 1, length), OUTSIDE);
        }
    }

    private static void mendOfTheKth() {
        SameAgain x = signs("abcdef");
        x.version();
        Due.change(x, 0, "b1");
        Due.change(x, 2, "a23");
        due.is("19 the first", x.mend(0, 0, 3, 3, 0, -1), 2);
        due.is("19 its NAME", x.mend(0, 0, 3, 3, 0, 0), 'e');
        due.is("19 the second is as it was", x.mend(0, 0, 3, 3, 1, -1), NO);
        due.is("19 the last", x.mend(0, 0, 3, 3, 2, -1), 3);
        due.is("19 its NAME", x.mend(0, 0, 3, 3, 2, 0), 'd');
        for (int k : new int[] {LEAST, -1, 3, 4, 19, 20, MOST}) {
            due.is("19 k " + k, x.mend(0, 0, 3, 3, k, -1), OUTSIDE);
        }
        Due.change(x, 4, "e4");
        Due.change(x, 1, "b5");
        due.is("18 the k-th of both rows", x.mends(0, 0, 3, 3), 0b101);
        due.is("19 the k-th of the second was changed, too", x.mend(0, 0, 3, 3, 1, -1), NO);
        due.is("19 the last still", x.mend(0, 0, 3, 3, 2, -1), 3);
        due.is("19 length 1, k 0", x.mend(0, 0, 3, 1, 0, -1), 2);
        due.is("19 length 1, k 1", x.mend(0, 0, 3, 1, 1, -1), OUTSIDE);
        due.is("19 length 20, k 19", x.mend(0, 0, 3, 20, 19, -1), NO);
        due.is("19 length 20, k 20", x.mend(0, 0, 3, 20, 20, -1), OUTSIDE);
    }

    private static void mendSigns() {
        SameAgain one = Due.code("a=b", "c=d");
        one.version();
        Due.change(one, 0, "b");
        due.is("19 of one sign", one.mend(0, 0, 1, 1, 0, -1), 1);
        due.is("19 the sign", one.mend(0, 0, 1, 1, 0, 0), 'd');
        for (int i : new int[] {LEAST, -3, -2, 1, 2, 8, MOST}) {
            due.is("19 of one, sign " + i, one.mend(0, 0, 1, 1, 0, i), NONE);
        }
        Due.change(one, 0, "+123456a");
        due.is("19 of eight signs", one.mend(0, 0, 1, 1, 0, -1), 8);
        due.is("19 the first", one.mend(0, 0, 1, 1, 0, 0), '+');
        due.is("19 the second", one.mend(0, 0, 1, 1, 0, 1), '1');
        due.is("19 the eighth", one.mend(0, 0, 1, 1, 0, 7), 'c');
        for (int i : new int[] {LEAST, -3, -2, 8, 9, MOST}) {
            due.is("19 of eight, sign " + i, one.mend(0, 0, 1, 1, 0, i), NONE);
            due.is("19 NO goes ahead of NONE, sign " + i, one.mend(0, 1, 0, 1, 0, i), NO);
        }
    }

    private static void mendReads(String what, SameAgain x, int one, int other, int length, String read) {
        due.is(what + ": how many", x.mend(0, one, other, length, 0, -1), read.length());
        for (int i = 0; i < read.length(); i++) {
            due.is(what + ": sign " + i, x.mend(0, one, other, length, 0, i), read.charAt(i));
        }
    }

    private static void mendNames() {
        SameAgain x = Due.code("az", "m", "za", "n");
        x.version();
        Due.change(x, 0, "azm=09{`");
        mendReads("19 the first and the last NAME", x, 0, 2, 2, "zan=09{`");
        mendReads("19 a NAME that stands not there", x, 0, 2, 1, "zam=09{`");
        Due.change(x, 0, "nn");
        mendReads("19 a NAME of the second row alone", x, 0, 2, 2, "nn");
        Due.change(x, 0, "za");
        mendReads("19 as the second reads already", x, 0, 2, 2, "az");
        // The names are those of the earlier VERSION: the other line of the first row is another one behind it.
        SameAgain y = signs("abcd");
        y.version();
        Due.change(y, 1, "x");
        Due.change(y, 0, "abx");
        mendReads("19 as in the earlier VERSION", y, 0, 2, 2, "cdx");
    }

    private static void mendRefused() {
        SameAgain x = signs("ab");
        x.version();
        for (int i : new int[] {LEAST, -2, -1, 0, MOST}) {
            for (int start : NOT_A_START) {
                due.is("19 start " + start, x.mend(0, start, 1, 1, 0, i), OUTSIDE);
                due.is("19 the other start " + start, x.mend(0, 0, start, 1, 0, i), OUTSIDE);
            }
            for (int length : NOT_A_LENGTH) {
                due.is("19 length " + length, x.mend(0, 0, 1, length, 0, i), OUTSIDE);
            }
            due.is("19 OUTSIDE goes ahead of NO", x.mend(0, 0, 1, 1, 1, i), OUTSIDE);
            due.is("19 NO", x.mend(0, 0, 1, 1, 0, i), NO);
        }
    }

    private static void isFar(String what, String one, String other, int cost) {
        SameAgain x = Due.code(one, other);
        due.is(what, x.far(0, 0, 1), cost);
        due.is(what + ", turned round", x.far(0, 1, 0), cost);
        due.is(what + ", itself", x.far(0, 0, 0), 0);
        due.is("21 " + what + ": within", x.near(0, 0, cost), 0b11);
        due.is("21 " + what + ": not within one less", cost == 0 ? 0b01 : x.near(0, 0, cost - 1), 0b01);
    }

    private static void farLeastAndMost() {
        isFar("20 the same sign", "a", "a", 0);
        isFar("20 the same eight", "a1+b2-c3", "a1+b2-c3", 0);
        isFar("20 eight others", "abcdefgh", "++++++++", 24);
        isFar("20 eight others, numbers", "12345678", "++++++++", 24);
        isFar("20 seven others", "abcdefgh", "a+++++++", 21);
        isFar("20 eight names", "abcdefgh", "zzzzzzzz", 8);
        isFar("20 one and eight, the same", "a", "+++++++a", 14);
        isFar("20 one and eight, a NAME", "a", "+++++++b", 15);
        isFar("20 one and eight, none like it", "a", "++++++++", 17);
        isFar("20 seven and eight", "abcdefg", "abcdefgh", 2);
        isFar("20 seven marks and eight names", "+++++++", "abcdefgh", 23);
    }

    private static void farLeastCost() {
        isFar("20 a NAME for a NAME, not out and in", "a", "b", 1);
        isFar("20 a NUMBER for a NUMBER", "0", "9", 1);
        isFar("20 a NAME for a NUMBER, not out and in", "a", "1", 3);
        isFar("20 a mark for a mark", "+", "-", 3);
        isFar("20 out and in, not two others", "+-", "-+", 4);
        isFar("20 two names, not out and in", "ab", "ba", 2);
        isFar("20 out at the first, in at the last", "+1234567", "1234567+", 4);
        isFar("20 numbers are cheaper than that", "01234567", "12345678", 4);
        isFar("20 three numbers are cheaper than out and in", "012", "123", 3);
    }

    private static void farUnknown() {
        for (int lines = 0; lines <= 20; lines++) {
            SameAgain x = Due.same("a", lines);
            for (int line : new int[] {LEAST, -1, lines, lines + 1, 20, MOST}) {
                due.is("20 of " + lines + ", LINE " + line, x.far(0, line, 0), UNKNOWN);
                due.is("20 of " + lines + ", the other LINE " + line, x.far(0, 0, line), UNKNOWN);
                due.is("20 both " + line, x.far(0, line, line), UNKNOWN);
            }
            for (int version : NOT_A_VERSION) {
                due.is("20 VERSION " + version, x.far(version, 0, 0), UNKNOWN);
            }
            due.is("20 the first and the last", x.far(0, 0, lines - 1), lines > 0 ? 0 : UNKNOWN);
        }
    }

    private static void nearEachCost() {
        // Line k of the first eight is k names further; the others are as many marks further.
        String[] lines = new String[17];
        for (int k = 0; k <= 8; k++) {
            lines[k] = "z".repeat(k) + "a".repeat(8 - k);
            lines[8 + k] = k == 0 ? lines[8] : "+".repeat(k) + "a".repeat(8 - k);
        }
        SameAgain x = Due.code(lines);
        for (int cost = 0; cost <= 24; cost++) {
            int want = 0;
            for (int k = 0; k <= 8; k++) {
                want |= k <= cost ? 1 << k : 0;
                want |= k > 0 && 3 * k <= cost ? 1 << 8 + k : 0;
            }
            due.is("21 cost " + cost, x.near(0, 0, cost), want);
        }
        due.is("21 itself alone", x.near(0, 16, 0), 1 << 16);
        due.is("21 all twenty", Due.same("a", 20).near(0, 19, 0), 0xFFFFF);
        due.is("21 the last of twenty alone", signs("ABCDEFGHIJKLMNOPQRST").near(0, 19, 2), 1 << 19);
        due.is("21 and all others", signs("ABCDEFGHIJKLMNOPQRST").near(0, 19, 3), 0xFFFFF);
    }

    private static void nearRefused() {
        for (int lines = 0; lines <= 20; lines += 5) {
            SameAgain x = Due.same("a", lines);
            for (int cost : new int[] {LEAST, -1, 25, MOST}) {
                due.is("21 cost " + cost, x.near(0, 0, cost), lines == 0 ? UNKNOWN : OUTSIDE);
                for (int line : new int[] {LEAST, -1, lines, lines + 1, 20, MOST}) {
                    due.is("21 UNKNOWN goes ahead: LINE " + line, x.near(0, line, cost), UNKNOWN);
                }
                for (int version : NOT_A_VERSION) {
                    due.is("21 UNKNOWN goes ahead: VERSION " + version, x.near(version, 0, cost), UNKNOWN);
                }
            }
            due.is("21 right behind the last", x.near(0, lines, 0), UNKNOWN);
        }
    }

    private static void imagesZeroAndOne() {
        SameAgain x = signs("a");
        due.is("22 image 0", x.image(0), 1);
        Due.change(x, 0, "b");
        due.is("22 image 1", x.image(1), 1);
        Due.change(x, 0, "c");
        for (int n : NOT_ZERO_TO_ONE) {
            due.is("22 image " + n, x.image(n), OUTSIDE);
            due.is("23 restore " + n, x.restore(n), OUTSIDE);
        }
        due.is("23 nothing came back", x.sign(0, 0, 0), 'c');
        due.is("23 restore 0", x.restore(0), 1);
        due.is("23 as it was in 0", x.sign(0, 0, 0), 'a');
        due.is("23 restore 1", x.restore(1), 1);
        due.is("23 as it was in 1", x.sign(0, 0, 0), 'b');
        due.is("23 restore 0 again", x.restore(0), 1);
        due.is("23 as it was in 0 again", x.sign(0, 0, 0), 'a');
    }

    private static void imageThatWasNotKept() {
        for (int kept = 0; kept < 2; kept++) {
            SameAgain x = signs("ab");
            for (int n : NOT_ZERO_TO_ONE) {
                x.image(n);
            }
            due.is("23 0 was not kept", x.restore(0), STATE);
            due.is("23 1 was not kept", x.restore(1), STATE);
            due.is("23 the LINES stay", x.told(1), 2);
            x.image(kept);
            due.is("23 the other one was not kept", x.restore(1 - kept), STATE);
            due.is("23 the LINES stay", x.told(1), 2);
            due.is("23 this one was", x.restore(kept), 1);
            due.is("23 the other one was not kept still", x.restore(1 - kept), STATE);
        }
    }

    private static void imageOfNothing() {
        SameAgain x = new SameAgain();
        due.is("22 of no LINES", x.image(1), 1);
        for (int i = 0; i < 20; i++) {
            x.say('a');
            x.line();
        }
        for (int v = 1; v < 4; v++) {
            x.version();
        }
        due.is("23 from full to nothing", x.restore(1), 1);
        due.is("23 no LINES", x.told(1), 0);
        due.is("23 one VERSION", x.told(2), 1);
        due.is("23 no LINE 0", x.sign(0, 0, -1), UNKNOWN);
        due.is("23 no VERSION 1", x.two(1, 0), UNKNOWN);
        due.is("23 LIKE is 0", x.like(0, 0, 0, 1), 0);
        x.say('b');
        due.is("23 the first LINE again", x.line(), 0);
        due.is("23 VERSION 1 again", x.version(), 1);
        due.is("23 as the LINE is", x.sign(1, 0, 0), 'b');
        due.is("23 and alone", x.like(1, 0, 0, 1), 1);
    }

    private static void imageOfAll() {
        SameAgain x = Due.same("a", 20);
        for (int v = 1; v < 4; v++) {
            x.version();
            Due.change(x, 19, "b" + v);
        }
        SameAgain y = new SameAgain();
        y.image(0);
        due.is("22 of all", x.image(0), 1);
        Due.change(x, 19, "c");
        due.is("23 of all", x.restore(0), 1);
        due.is("23 twenty LINES", x.told(1), 20);
        due.is("23 four VERSIONS", x.told(2), 4);
        x.say('d');
        due.is("23 full of LINES", x.line(), FULL);
        due.is("23 full of VERSIONS", x.version(), FULL);
        due.is("23 the last LINE of VERSION 0", x.sign(0, 19, 0), 'a');
        for (int v = 1; v < 4; v++) {
            due.is("23 the last LINE of VERSION " + v, x.sign(v, 19, 1), '0' + v);
        }
        due.is("23 another object's image is its own", y.restore(0), 1);
        due.is("23 it is empty", y.told(1), 0);
    }

    private static void linesThatAreGone() {
        SameAgain x = signs("a");
        x.image(0);
        Due.say(x, "a");
        x.line();
        x.version();
        due.is("10 two LINES", x.like(0, 0, 1, 1), 0b11);
        x.restore(0);
        due.is("10 the second is gone", x.like(0, 0, 1, 1), 0);
        due.is("10 the first is alone", x.like(0, 0, 0, 1), 0b1);
        due.is("8 none is alike to it", x.alike(0, 0, 0, 1, 1), 0);
        due.is("12 it is in no GROUP", x.whole(0, 0, 1, 1), NO);
        due.is("13 it is not TAKEN", x.pulled(0, 0, 1, 1, 0), -1005);
        due.is("9 none is LONGEST", x.longest(0, 0, 0), NONE);
        due.is("20 it is UNKNOWN", x.far(0, 0, 1), UNKNOWN);
        due.is("21 it is not NEAR", x.near(0, 0, 24), 0b1);
        due.is("18 no VERSION is behind", x.mends(0, 0, 1, 1), UNKNOWN);
    }

    private static void imageIsNotChanged() {
        SameAgain x = signs("ab");
        x.image(0);
        Due.change(x, 0, "c");
        Due.say(x, "d");
        x.line();
        x.version();
        x.restore(0);
        due.is("23 the sign of then", x.sign(0, 0, 0), 'a');
        due.is("23 the LINES of then", x.told(1), 2);
        due.is("23 the VERSIONS of then", x.told(2), 1);
        Due.change(x, 0, "e");
        x.version();
        x.restore(0);
        due.is("23 the sign of then again", x.sign(0, 0, 0), 'a');
        due.is("23 the VERSIONS of then again", x.told(2), 1);
        Due.change(x, 1, "f");
        due.is("22 kept once more", x.image(0), 1);
        Due.change(x, 1, "g");
        x.restore(0);
        due.is("23 what was kept last", x.sign(0, 1, 0), 'f');
    }

    private static void restoreLeavesThePad() {
        SameAgain x = signs("a");
        Due.say(x, "12345678");
        x.image(0);
        x.wipe();
        Due.say(x, "xyz");
        x.restore(0);
        due.is("23 the PAD is not in THE CODE", x.told(0), 3);
        x.line();
        due.is("23 its signs", x.sign(0, 1, 2), 'z');
    }

    private static void toldEach() {
        SameAgain x = new SameAgain();
        for (int what : NOT_ZERO_TO_TWO) {
            due.is("24 of nothing, what " + what, x.told(what), OUTSIDE);
        }
        SameAgain y = Due.same("a", 20);
        y.version();
        y.version();
        y.version();
        Due.say(y, "12345678");
        due.is("24 eight signs", y.told(0), 8);
        due.is("24 twenty LINES", y.told(1), 20);
        due.is("24 four VERSIONS", y.told(2), 4);
        for (int what : NOT_ZERO_TO_TWO) {
            due.is("24 of all, what " + what, y.told(what), OUTSIDE);
        }
    }
}

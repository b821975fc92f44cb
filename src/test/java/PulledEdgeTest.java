/** The edges that promises 13 to 15 and their terms name: PULLED OUT, BEST, TWO. */
public final class PulledEdgeTest {
    private static final int NONE = SameAgain.NONE;
    private static final int UNKNOWN = SameAgain.UNKNOWN;
    private static final int OUTSIDE = SameAgain.OUTSIDE;
    private static final int MOST = Integer.MAX_VALUE;
    private static final int LEAST = Integer.MIN_VALUE;
    private static final int NO_PULLED = -1005;
    private static final int[] NOT_ZERO_TO_TWO = {LEAST, -1, 3, MOST};
    private static final int[] NOT_A_START = {LEAST, -1, 20, 21, MOST};
    private static final int[] NOT_A_LENGTH = {LEAST, -1, 0, 21, MOST};
    private static final int[] NOT_A_VERSION = {LEAST, -1, 1, 4, MOST};

    private static final Due due = new Due();

    public static void main(String[] args) {
        belowTwoTaken();
        takenShareNoLine();
        takenFromTheLeastOn();
        toldNothing();
        toldOnce();
        toldOfTakenRowsAlone();
        toldOfEachKind();
        savesAsLowAsRefusals();
        savesFarBelowZero();
        savesAtMost();
        pulledRefused();
        bestAboveZero();
        bestOfSeveral();
        bestOfTwentyLines();
        bestRefused();
        twoOfNone();
        twoOfOneAlone();
        twoThatTouch();
        twoThatShareALine();
        twoOrOneAlone();
        twoRefused();
        eachVersionByItself();
        due.end();
    }

    private static SameAgain signs(String each) {
        return Due.code(Due.lines(each));
    }

    private static void isPulled(String what, SameAgain x, int way, int start, int length, int... want) {
        for (int i = 0; i < 3; i++) {
            due.is(what + ": " + i, x.pulled(0, way, start, length, i), want[want.length == 1 ? 0 : i]);
        }
    }

    private static void belowTwoTaken() {
        for (int way = 0; way < 3; way++) {
            isPulled("13 no LINES", new SameAgain(), way, 0, 1, NO_PULLED);
            isPulled("13 one start", signs("a"), way, 0, 1, NO_PULLED);
            isPulled("13 one start among others", signs("a+a"), way, 1, 1, NO_PULLED);
            isPulled("13 two starts", signs("aa"), way, 0, 1, 0b11, 0, -2);
            isPulled("13 two starts, one TAKEN", signs("aaa"), way, 0, 2, NO_PULLED);
            isPulled("13 three starts, two TAKEN", signs("aaaa"), way, 0, 2, 0b101, 0, -1);
            isPulled("13 beyond the end", signs("aaaa"), way, 3, 2, NO_PULLED);
            isPulled("13 right behind the end", signs("aaaa"), way, 4, 1, NO_PULLED);
            isPulled("13 far behind the end", signs("aaaa"), way, 19, 20, NO_PULLED);
        }
    }

    private static void takenShareNoLine() {
        for (int lines = 2; lines <= 20; lines++) {
            SameAgain x = Due.same("a", lines);
            for (int length = 1; length <= 20; length++) {
                int taken = 0;
                for (int start = 0; start + length <= lines; start += length) {
                    taken |= 1 << start;
                }
                int want = Integer.bitCount(taken) < 2 ? NO_PULLED : taken;
                due.is("13 TAKEN of " + lines + ", length " + length, x.pulled(0, 0, 0, length, 0), want);
            }
        }
        due.is("13 ten and ten", Due.same("a", 20).pulled(0, 0, 10, 10, 0), 1 << 10 | 1);
        due.is("13 eleven of twenty", Due.same("a", 20).pulled(0, 0, 0, 11, 0), NO_PULLED);
        due.is("13 ten of nineteen", Due.same("a", 19).pulled(0, 0, 0, 10, 0), NO_PULLED);
    }

    private static void takenFromTheLeastOn() {
        // ABA at 0, 2, 4: the one at 2 shares a line with both, and is not taken although it is the one that is told.
        SameAgain x = signs("ABABABA");
        isPulled("13 told by the least", x, 0, 0, 3, 0b10001, 0, 0);
        isPulled("13 told by one that is not TAKEN", x, 0, 2, 3, 0b10001, 0, 0);
        isPulled("13 told by the last", x, 0, 4, 3, 0b10001, 0, 0);
        isPulled("13 the least is not 0", signs("+A-A"), 0, 3, 1, 0b1010, 0, -2);
    }

    private static void toldNothing() {
        isPulled("13 all the same", Due.code("a1+", "a1+"), 2, 0, 1, 0b11, 0, -2);
        isPulled("13 marks alone", signs("++"), 2, 0, 1, 0b11, 0, -2);
        isPulled("13 one place is not the same", Due.code("a1+", "b1+"), 2, 0, 1, 0b11, 1, -3);
        isPulled("13 in the third ROW alone", Due.code("a1+", "a1+", "b1+"), 2, 0, 1, 0b111, 1, -3);
        isPulled("13 in the first ROW alone", Due.code("b1+", "a1+", "a1+"), 2, 0, 1, 0b111, 1, -3);
    }

    private static void toldOnce() {
        isPulled("13 both places the same", Due.code("a=a", "b=b"), 1, 0, 1, 0b11, 1, -3);
        isPulled("13 in another LINE", signs("aa+bb"), 1, 0, 2, 0b1001, 1, -2);
        isPulled("13 in another LINE, behind others", signs("+A11-A22"), 2, 1, 3, 0b100010, 1, -1);
        isPulled("13 in the third LINE", signs("1+1=2+2"), 2, 0, 3, 0b10001, 1, -1);
        isPulled("13 in the third LINE another one", signs("1+1=2+3"), 2, 0, 3, 0b10001, 2, -2);
        isPulled("13 all eight places", Due.code("aaaaaaaa", "bbbbbbbb"), 1, 0, 1, 0b11, 1, -3);
        isPulled("13 eight places, each by itself", Due.code("abcdefgh", "bcdefgha"), 1, 0, 1, 0b11, 8, -10);
        isPulled("13 numbers the same in each", Due.code("1+1", "2+2"), 2, 0, 1, 0b11, 1, -3);
        isPulled("13 numbers the same in the first", Due.code("1+1", "2+3"), 2, 0, 1, 0b11, 2, -4);
        isPulled("13 numbers the same in the second", Due.code("1+2", "3+3"), 2, 0, 1, 0b11, 2, -4);
        isPulled("13 three places, two and one", Due.code("112", "334"), 2, 0, 1, 0b11, 2, -4);
        isPulled("13 three places, the outer two", Due.code("121", "343"), 2, 0, 1, 0b11, 2, -4);
        isPulled("13 the place that is the same is not told", Due.code("12", "32"), 2, 0, 1, 0b11, 1, -3);
    }

    private static void toldOfTakenRowsAlone() {
        // Rows of two at 0, 1, 2, 3; taken are 0 (1 1) and 2 (2 1): the second place is the same in these.
        isPulled("13 a ROW that is not TAKEN", signs("11211"), 2, 0, 2, 0b101, 1, -2);
    }

    private static void toldOfEachKind() {
        isPulled("13 a name and a number", Due.code("a1", "b2"), 2, 0, 1, 0b11, 2, -4);
        isPulled("13 by WAY 1 the number is the same", Due.code("a1", "b1"), 1, 0, 1, 0b11, 1, -3);
        isPulled("13 by WAY 0 nothing is told", Due.code("a1", "a1"), 0, 0, 1, 0b11, 0, -2);
        isPulled("13 the first and last names and numbers", Due.code("a0z9", "z9a0"), 2, 0, 1, 0b11, 4, -6);
    }

    /** The answers that would be a refusal elsewhere: that is why this call's are 1000 below. */
    private static void savesAsLowAsRefusals() {
        due.is("13 SAVES 1", signs("ABCD+ABCD").pulled(0, 0, 0, 4, 2), 1);
        due.is("13 SAVES 0", signs("ABC+ABC").pulled(0, 0, 0, 3, 2), 0);
        due.is("13 SAVES -1", signs("AB+AB").pulled(0, 0, 0, 2, 2), -1);
        due.is("13 SAVES -2", signs("AA").pulled(0, 0, 0, 1, 2), -2);
        due.is("13 SAVES -3", Due.code("a", "b").pulled(0, 1, 0, 1, 2), -3);
        due.is("13 SAVES -4", Due.code("ab", "cd").pulled(0, 1, 0, 1, 2), -4);
        due.is("13 SAVES -5", Due.code("abc", "def").pulled(0, 1, 0, 1, 2), -5);
        due.is("13 SAVES -6", Due.code("abcd", "efgh").pulled(0, 1, 0, 1, 2), -6);
        due.is("13 twenty of one LINE", Due.same("a", 20).pulled(0, 0, 0, 1, 2), -2);
    }

    private static void savesFarBelowZero() {
        // Two rows of ten lines of eight numbers, no two places of which are the same pair: 20 - 11 - 2 - 80.
        String[] one = new String[10];
        String[] other = new String[10];
        for (int k = 0; k < 10; k++) {
            one[k] = String.valueOf(k).repeat(8);
            StringBuilder pairs = new StringBuilder();
            for (int step = 1; step <= 8; step++) {
                pairs.append((k + step) % 10);
            }
            other[k] = pairs.toString();
        }
        isPulled("13 eighty told", Due.code(Due.joined(one, other)), 2, 0, 10, 1 << 10 | 1, 80, -73);
    }

    private static void savesAtMost() {
        SameAgain x = Due.same("a", 20);
        isPulled("13 five of four", x, 0, 0, 4, 0x11111, 0, 10);
        isPulled("13 four of five", x, 0, 0, 5, 0x08421, 0, 10);
        isPulled("13 two of ten", x, 0, 0, 10, 0x00401, 0, 7);
        isPulled("13 ten of two", x, 0, 0, 2, 0x55555, 0, 7);
    }

    private static void pulledRefused() {
        SameAgain x = Due.same("a", 4);
        for (int what = 0; what < 3; what++) {
            for (int way : NOT_ZERO_TO_TWO) {
                due.is("13 WAY " + way, x.pulled(0, way, 0, 1, what), -1002);
            }
            for (int start : NOT_A_START) {
                due.is("13 start " + start, x.pulled(0, 0, start, 1, what), -1002);
            }
            for (int length : NOT_A_LENGTH) {
                due.is("13 OUTSIDE goes ahead of NO: length " + length, x.pulled(0, 0, 19, length, what), -1002);
            }
        }
        for (int what : NOT_ZERO_TO_TWO) {
            due.is("13 what " + what, x.pulled(0, 0, 0, 1, what), -1002);
            due.is("13 OUTSIDE goes ahead of NO: what " + what, x.pulled(0, 0, 19, 20, what), -1002);
            for (int version : NOT_A_VERSION) {
                due.is("13 VERSION " + version, x.pulled(version, 3, 20, 0, what), -1001);
            }
        }
    }

    private static void isBest(String what, SameAgain x, int way, int saves, int start, int length) {
        due.is(what + ": SAVES", x.best(0, way, 0), saves);
        due.is(what + ": start", x.best(0, way, 1), start);
        due.is(what + ": length", x.best(0, way, 2), length);
    }

    private static void bestAboveZero() {
        for (int way = 0; way < 3; way++) {
            isBest("14 no LINES", new SameAgain(), way, NONE, NONE, NONE);
            isBest("14 one LINE", signs("a"), way, NONE, NONE, NONE);
            isBest("14 SAVES 0", signs("ABC+ABC"), way, NONE, NONE, NONE);
            isBest("14 SAVES 1", signs("ABCD+ABCD"), way, 1, 0, 4);
            isBest("14 SAVES 2", signs("ABCDE+ABCDE"), way, 2, 0, 5);
        }
        // Four lines twice save 1, less what must be told: 0.
        isBest("14 1 less 1 told", Due.code("a", "A", "B", "C", "+", "b", "A", "B", "C"), 1, NONE, NONE, NONE);
        isBest("14 2 less 1 told", Due.code("A", "B", "a", "C", "D", "+", "A", "B", "b", "C", "D"), 1, 1, 0, 5);
        isBest("14 at start 1", signs("=ABCD+ABCD"), 0, 1, 1, 4);
    }

    private static void bestOfSeveral() {
        // Two lines four times and four lines twice save 1, three lines twice 0.
        isBest("14 the least length", Due.same("A", 8), 0, 1, 0, 2);
        isBest("14 then the least start", signs("ABCDEFGHEFGHABCD"), 0, 1, 0, 4);
        isBest("14 then the least start, not 0", signs("+EFGHABCD-ABCDEFGH"), 0, 1, 1, 4);
        isBest("14 the greatest SAVES goes ahead of both", signs("ABCD+ABCDFGHIJ-FGHIJ"), 0, 2, 9, 5);
        // With the line that must be told six lines save 3 - 1, as five of them without.
        isBest("14 of as many the lesser length, though its start is greater",
            Due.code("1", "A", "B", "C", "D", "E", "2", "A", "B", "C", "D", "E"), 2, 2, 1, 5);
    }

    private static void bestOfTwentyLines() {
        isBest("14 all the same", Due.same("a", 20), 0, 10, 0, 4);
        isBest("14 ten and ten", signs("ABCDEFGHIJABCDEFGHIJ"), 0, 7, 0, 10);
        // More than thirty save here, and those of the greatest length save most.
        isBest("14 nine, nine and two", signs("ABCDEFGHIABCDEFGHIAB"), 0, 6, 0, 9);
        isBest("14 eight, eight and four", signs("ABCDEFGHABCDEFGHABCD"), 0, 5, 0, 8);
        isBest("14 at the last LINES", signs("!(&=.,/;:?@ABCD+ABCD"), 0, 1, 11, 4);
        isBest("14 none of twenty", signs("ABCDEFGHIJKLMNOPQRST"), 2, NONE, NONE, NONE);
    }

    private static void bestRefused() {
        SameAgain x = Due.same("a", 8);
        for (int wrong : NOT_ZERO_TO_TWO) {
            due.is("14 what " + wrong, x.best(0, 0, wrong), OUTSIDE);
            due.is("14 WAY " + wrong, x.best(0, wrong, 0), OUTSIDE);
            due.is("14 OUTSIDE where there is none: " + wrong, new SameAgain().best(0, 0, wrong), OUTSIDE);
        }
        for (int version : NOT_A_VERSION) {
            due.is("14 VERSION " + version, x.best(version, 3, 3), UNKNOWN);
        }
    }

    private static void twoOfNone() {
        for (int way = 0; way < 3; way++) {
            due.is("15 no LINES", new SameAgain().two(0, way), 0);
            due.is("15 one LINE", signs("a").two(0, way), 0);
            due.is("15 twenty unlike LINES", signs("ABCDEFGHIJKLMNOPQRST").two(0, way), 0);
            due.is("15 SAVES 0 and below", signs("ABC+ABC").two(0, way), 0);
        }
    }

    private static void twoOfOneAlone() {
        for (int way = 0; way < 3; way++) {
            due.is("15 SAVES 1", signs("ABCD+ABCD").two(0, way), 1);
            due.is("15 the second would save nothing", signs("ABCD+ABCD=EFG-EFG").two(0, way), 1);
            due.is("15 the same one is not taken twice", Due.same("a", 20).two(0, way), 10);
        }
    }

    private static void twoThatTouch() {
        due.is("15 beside each other", signs("ABCDEFGHEFGHABCD").two(0, 0), 2);
        due.is("15 one within the other's rows", signs("ABCDEFGH+EFGH-ABCD").two(0, 0), 2);
        due.is("15 of twenty LINES", signs("ABCDEFGHIJFGHIJABCDE").two(0, 0), 4);
    }

    private static void twoThatShareALine() {
        due.is("15 the first rows share D", signs("ABCDEFG+ABCD-DEFG").two(0, 0), 1);
        due.is("15 the first rows share none", signs("ABCDDEFG+ABCD-DEFG").two(0, 0), 2);
        due.is("15 later rows share D", signs("ABCD+ABCDEFG-DEFG").two(0, 0), 1);
        due.is("15 later rows share none", signs("ABCD+ABCDDEFG-DEFG").two(0, 0), 2);
        due.is("15 the last rows share D", signs("ABCD+DEFG-ABCDEFG").two(0, 0), 1);
        due.is("15 the last rows share none", signs("ABCD+DEFG-ABCDDEFG").two(0, 0), 2);
    }

    private static void twoOrOneAlone() {
        // Eight lines twice save 5; four and four of them would save 1 each.
        due.is("15 one alone saves more", signs("ABCDEFGH+ABCDEFGH").two(0, 0), 5);
        // Six lines twice save 3, and cross the other two, which save 1 and 1.
        due.is("15 one that crosses both saves more", signs("ABCDEF+ABCDEF").two(0, 0), 3);
        due.is("15 the best saves 2, a second one nothing", signs("BCDEF+BCDEFGHI-GHI").two(0, 0), 2);
        due.is("15 the best saves 2, a second one 1", signs("BCDEF+BCDEFGHIJ-GHIJ").two(0, 0), 3);
    }

    /** The first VERSION and the last of four: what the one has and the other has not, asked in turn. */
    private static void eachVersionByItself() {
        SameAgain x = signs("ABCD+ABCD");
        for (int v = 1; v < 4; v++) {
            x.version();
        }
        Due.change(x, 0, "aa");
        Due.change(x, 5, "bc");
        Due.change(x, 8, "!");
        int[] best = {1, 0, 4};
        int[] pulled = {0b100001, 0, 1};
        for (int turn = 0; turn < 2; turn++) {
            for (int what = 0; what < 3; what++) {
                due.is("13 VERSION 0, what " + what, x.pulled(0, 0, 0, 4, what), pulled[what]);
                due.is("13 VERSION 3, what " + what, x.pulled(3, 0, 0, 4, what), NO_PULLED);
                due.is("14 VERSION 0, what " + what, x.best(0, 0, what), best[what]);
                due.is("14 VERSION 3, what " + what, x.best(3, 0, what), NONE);
            }
            due.is("15 VERSION 0", x.two(0, 0), 1);
            due.is("15 VERSION 3", x.two(3, 0), 0);
        }
        Due.change(x, 5, "bb");
        due.is("13 TOLD in VERSION 3", x.pulled(3, 1, 0, 3, 1), 1);
        due.is("13 TOLD in VERSION 0", x.pulled(0, 1, 0, 3, 1), 0);
        SameAgain y = signs("ABCDEFGHEFGHABCD");
        y.version();
        Due.change(y, 15, "!");
        y.version();
        Due.change(y, 11, "?");
        for (int turn = 0; turn < 2; turn++) {
            due.is("15 two", y.two(0, 0), 2);
            due.is("15 one alone", y.two(1, 0), 1);
            due.is("15 two again", y.two(0, 0), 2);
            due.is("15 none", y.two(2, 0), 0);
        }
    }

    private static void twoRefused() {
        SameAgain x = Due.same("a", 8);
        for (int way : NOT_ZERO_TO_TWO) {
            due.is("15 WAY " + way, x.two(0, way), OUTSIDE);
            due.is("15 OUTSIDE where there is none: " + way, new SameAgain().two(0, way), OUTSIDE);
        }
        for (int version : NOT_A_VERSION) {
            due.is("15 VERSION " + version, x.two(version, 3), UNKNOWN);
            due.is("15 VERSION " + version, x.two(version, 0), UNKNOWN);
        }
    }
}

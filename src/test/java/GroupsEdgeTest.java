/** The edges that promises 9 to 12 and their terms name: LONGEST, LIKE, GROUPS, WHOLE. */
public final class GroupsEdgeTest {
    private static final int NONE = SameAgain.NONE;
    private static final int UNKNOWN = SameAgain.UNKNOWN;
    private static final int OUTSIDE = SameAgain.OUTSIDE;
    private static final int NO = SameAgain.NO;
    private static final int MOST = Integer.MAX_VALUE;
    private static final int LEAST = Integer.MIN_VALUE;
    private static final int[] NOT_ZERO_TO_TWO = {LEAST, -1, 3, MOST};
    private static final int[] NOT_A_START = {LEAST, -1, 20, 21, MOST};
    private static final int[] NOT_A_LENGTH = {LEAST, -1, 0, 21, MOST};
    private static final int[] NOT_A_VERSION = {LEAST, -1, 1, 4, MOST};

    private static final Due due = new Due();

    public static void main(String[] args) {
        noLongest();
        longestRowsShareNoLine();
        longestOfSeveral();
        longestByEachWay();
        longestAtTheLastLine();
        longestRefused();
        likeItself();
        likeBeyondTheEnd();
        likeOfTwentyLines();
        likeRefused();
        groupsOfTwoStartsAtLeast();
        groupsByTheirLeastStart();
        groupsAsManyAsCanBe();
        groupsOfTheGreatestLengths();
        groupsRefused();
        wholeNeedsTwoStarts();
        wholeLooksBehind();
        wholeLooksAhead();
        wholeNeedsAllRowsToHaveOneMore();
        wholeAtTheEnds();
        wholeToldByAnyStart();
        wholeByEachWay();
        wholeRefused();
        eachVersionByItself();
        due.end();
    }

    private static SameAgain signs(String each) {
        return Due.code(Due.lines(each));
    }

    private static void isLongest(String what, SameAgain x, int way, int n, int i, int j) {
        due.is(what + ": n", x.longest(0, way, 0), n);
        due.is(what + ": i", x.longest(0, way, 1), i);
        due.is(what + ": j", x.longest(0, way, 2), j);
    }

    private static void noLongest() {
        for (int way = 0; way < 3; way++) {
            isLongest("9 of no LINES", new SameAgain(), way, NONE, NONE, NONE);
            isLongest("9 of one LINE", signs("a"), way, NONE, NONE, NONE);
            isLongest("9 of two unlike LINES", signs("a+"), way, NONE, NONE, NONE);
            isLongest("9 of two LINES that are alike", signs("aa"), way, 1, 0, 1);
            isLongest("9 of twenty unlike LINES", signs("ABCDEFGHIJKLMNOPQRST"), way, NONE, NONE, NONE);
        }
    }

    private static void longestRowsShareNoLine() {
        for (int lines = 2; lines <= 20; lines++) {
            // Rows of half of them, rounded down, beside each other: one line more would be in both.
            isLongest("9 of " + lines + " LINES all the same", Due.same("a", lines), 0, lines / 2, 0, lines / 2);
        }
        isLongest("9 rows that touch", signs("ABAB"), 0, 2, 0, 2);
        isLongest("9 rows of three would share one", signs("ABABA"), 0, 2, 0, 2);
        isLongest("9 rows of three that touch", signs("ABCABC"), 0, 3, 0, 3);
    }

    private static void longestOfSeveral() {
        isLongest("9 the least i, not the least j", signs("ABBA"), 0, 1, 0, 3);
        isLongest("9 then the least j", signs("ABABAB"), 0, 2, 0, 2);
        isLongest("9 the least j of a row that comes thrice", signs("AB+AB-AB"), 0, 2, 0, 3);
        isLongest("9 the greatest n goes ahead of the least i", signs("AA+BC-BC"), 0, 2, 3, 6);
        isLongest("9 of as many the first", signs("+AB=CD-CD!AB"), 0, 2, 1, 10);
    }

    private static void longestByEachWay() {
        SameAgain x = Due.code("+", "a", "1", "+", "b", "2");
        isLongest("9 by WAY 0", x, 0, 1, 0, 3);
        isLongest("9 by WAY 1", x, 1, 2, 0, 3);
        isLongest("9 by WAY 2", x, 2, 3, 0, 3);
        isLongest("9 none by WAY 0", Due.code("a1", "b2"), 0, NONE, NONE, NONE);
        isLongest("9 none by WAY 1", Due.code("a1", "b2"), 1, NONE, NONE, NONE);
        isLongest("9 one by WAY 2", Due.code("a1", "b2"), 2, 1, 0, 1);
    }

    private static void longestAtTheLastLine() {
        isLongest("9 the last two of twenty", signs("ABCDEFGHIJKLMNOPQRaa"), 0, 1, 18, 19);
        isLongest("9 the first and the last of twenty", signs("aABCDEFGHIJKLMNOPQRa"), 0, 1, 0, 19);
        isLongest("9 ten and ten", signs("ABCDEFGHIJABCDEFGHIJ"), 0, 10, 0, 10);
        isLongest("9 nine and nine, behind one", signs("!BCDEFGHIJ?BCDEFGHIJ"), 0, 9, 1, 11);
    }

    private static void longestRefused() {
        SameAgain x = Due.same("a", 4);
        for (int wrong : NOT_ZERO_TO_TWO) {
            due.is("9 what " + wrong, x.longest(0, 0, wrong), OUTSIDE);
            due.is("9 WAY " + wrong, x.longest(0, wrong, 0), OUTSIDE);
            due.is("9 OUTSIDE where there is none: " + wrong, new SameAgain().longest(0, 0, wrong), OUTSIDE);
        }
        for (int version : NOT_A_VERSION) {
            due.is("9 VERSION " + version, x.longest(version, 3, 3), UNKNOWN);
        }
    }

    private static void likeItself() {
        for (int way = 0; way < 3; way++) {
            due.is("10 itself alone", signs("a").like(0, way, 0, 1), 0b1);
            due.is("10 itself among others", signs("+a-").like(0, way, 1, 1), 0b010);
            due.is("10 both", signs("a+a").like(0, way, 0, 1), 0b101);
            due.is("10 both, of the other", signs("a+a").like(0, way, 2, 1), 0b101);
            due.is("10 its whole CODE", signs("a+-").like(0, way, 0, 3), 0b001);
        }
        due.is("10 ROWS that share LINES, too", Due.same("a", 4).like(0, 0, 1, 3), 0b0011);
    }

    private static void likeBeyondTheEnd() {
        for (int way = 0; way < 3; way++) {
            SameAgain x = signs("aaa");
            due.is("10 up to the end", x.like(0, way, 2, 1), 0b111);
            due.is("10 up to the end, two", x.like(0, way, 1, 2), 0b011);
            due.is("10 up to the end, all", x.like(0, way, 0, 3), 0b001);
            due.is("10 one beyond the end", x.like(0, way, 2, 2), 0);
            due.is("10 one beyond the end, from 0", x.like(0, way, 0, 4), 0);
            due.is("10 right behind the end", x.like(0, way, 3, 1), 0);
            due.is("10 far behind the end", x.like(0, way, 19, 20), 0);
            due.is("10 no LINES", new SameAgain().like(0, way, 0, 1), 0);
        }
    }

    private static void likeOfTwentyLines() {
        SameAgain x = Due.same("a", 20);
        for (int length = 1; length <= 20; length++) {
            due.is("10 length " + length, x.like(0, 0, 0, length), (1 << 21 - length) - 1);
            due.is("10 the last start that is there", x.like(0, 0, 20 - length, length), (1 << 21 - length) - 1);
            due.is("10 one beyond the end", length == 1 ? 0 : x.like(0, 0, 21 - length, length), 0);
        }
        due.is("10 the last LINE alone", signs("ABCDEFGHIJKLMNOPQRST").like(0, 2, 19, 1), 1 << 19);
    }

    private static void likeRefused() {
        SameAgain x = Due.same("a", 4);
        for (int way : NOT_ZERO_TO_TWO) {
            due.is("10 WAY " + way, x.like(0, way, 0, 1), OUTSIDE);
        }
        for (int start : NOT_A_START) {
            due.is("10 start " + start, x.like(0, 0, start, 1), OUTSIDE);
        }
        for (int length : NOT_A_LENGTH) {
            due.is("10 length " + length, x.like(0, 0, 0, length), OUTSIDE);
        }
        for (int version : NOT_A_VERSION) {
            due.is("10 VERSION " + version, x.like(version, 3, 20, 0), UNKNOWN);
        }
    }

    private static void areGroups(String what, SameAgain x, int way, int length, int... starts) {
        due.is(what + ": how many", x.groups(0, way, length, -1), starts.length);
        for (int i = 0; i < starts.length; i++) {
            due.is(what + ": " + i, x.groups(0, way, length, i), starts[i]);
        }
        for (int i : new int[] {LEAST, -3, -2, starts.length, starts.length + 1, 20, MOST}) {
            due.is(what + ": " + i, x.groups(0, way, length, i), NONE);
        }
    }

    private static void groupsOfTwoStartsAtLeast() {
        for (int way = 0; way < 3; way++) {
            areGroups("11 no LINES", new SameAgain(), way, 1);
            areGroups("11 one start", signs("a"), way, 1);
            areGroups("11 one start each", signs("a+-"), way, 1);
            areGroups("11 two starts", signs("aa"), way, 1, 0);
            areGroups("11 three starts are one GROUP", signs("a+a-a"), way, 1, 0);
            areGroups("11 ROWS that share a LINE", signs("aaa"), way, 2, 0);
        }
        areGroups("11 two starts by WAY 2 alone", signs("12"), 2, 1, 0);
        areGroups("11 not by WAY 1", signs("12"), 1, 1);
    }

    private static void groupsByTheirLeastStart() {
        areGroups("11 the one whose least start is ahead", signs("BAAB"), 0, 1, 0, 1);
        areGroups("11 behind a LINE that is in none", signs("+AB-AB"), 0, 1, 1, 2);
        areGroups("11 two LINES", signs("+AB-AB"), 0, 2, 1);
        areGroups("11 the last LINES", signs("+-!AA"), 0, 1, 3);
    }

    private static void groupsAsManyAsCanBe() {
        SameAgain x = signs("ABCDEFGHIJABCDEFGHIJ");
        areGroups("11 ten", x, 0, 1, 0, 1, 2, 3, 4, 5, 6, 7, 8, 9);
        areGroups("11 nine", x, 0, 2, 0, 1, 2, 3, 4, 5, 6, 7, 8);
        areGroups("11 two", x, 0, 9, 0, 1);
        areGroups("11 one", x, 0, 10, 0);
        areGroups("11 none", x, 0, 11);
        SameAgain pairs = signs("AABBCCDDEEFFGGHHIIJJ");
        areGroups("11 ten, each beside itself", pairs, 0, 1, 0, 2, 4, 6, 8, 10, 12, 14, 16, 18);
    }

    private static void groupsOfTheGreatestLengths() {
        SameAgain x = Due.same("a", 20);
        areGroups("11 of one LINE", x, 0, 1, 0);
        areGroups("11 of nineteen LINES", x, 0, 19, 0);
        areGroups("11 of twenty LINES", x, 0, 20);
        SameAgain y = Due.same("a", 19);
        areGroups("11 of eighteen of nineteen", y, 0, 18, 0);
        areGroups("11 of nineteen of nineteen", y, 0, 19);
    }

    private static void groupsRefused() {
        SameAgain x = Due.same("a", 4);
        for (int i : new int[] {LEAST, -2, -1, 0, 1, MOST}) {
            for (int way : NOT_ZERO_TO_TWO) {
                due.is("11 WAY " + way, x.groups(0, way, 1, i), OUTSIDE);
            }
            for (int length : NOT_A_LENGTH) {
                due.is("11 length " + length, x.groups(0, 0, length, i), OUTSIDE);
            }
            for (int version : NOT_A_VERSION) {
                due.is("11 VERSION " + version, x.groups(version, 3, 0, i), UNKNOWN);
            }
        }
    }

    private static void wholeNeedsTwoStarts() {
        for (int way = 0; way < 3; way++) {
            due.is("12 no LINES", new SameAgain().whole(0, way, 0, 1), NO);
            due.is("12 one start", signs("a").whole(0, way, 0, 1), NO);
            due.is("12 one start among others", signs("a+a").whole(0, way, 1, 1), NO);
            due.is("12 two starts", signs("a+a").whole(0, way, 0, 1), 1);
            due.is("12 beyond the end", signs("aa").whole(0, way, 1, 2), NO);
            due.is("12 right behind the end", signs("aa").whole(0, way, 2, 1), NO);
            due.is("12 far behind the end", signs("aa").whole(0, way, 19, 20), NO);
        }
    }

    private static void wholeLooksBehind() {
        SameAgain x = signs("AB+AB");
        due.is("12 one LINE of two", x.whole(0, 0, 0, 1), 0);
        due.is("12 both LINES", x.whole(0, 0, 0, 2), 1);
        due.is("12 all three do not come twice", x.whole(0, 0, 0, 3), NO);
    }

    private static void wholeLooksAhead() {
        SameAgain x = signs("AB+AB");
        due.is("12 the second LINE of two", x.whole(0, 0, 1, 1), 0);
        due.is("12 at start 1, behind another LINE at each", signs("=B+B").whole(0, 0, 1, 1), 1);
        due.is("12 at start 1, behind the same LINE at each", signs("=B=B").whole(0, 0, 1, 1), 0);
        due.is("12 at start 0 there is none ahead", signs("B=B").whole(0, 0, 0, 1), 1);
        due.is("12 the first start 0, others behind the same LINE", signs("B=B=B").whole(0, 0, 2, 1), 1);
    }

    private static void wholeNeedsAllRowsToHaveOneMore() {
        due.is("12 two of three go on behind", signs("AB+AB-A!").whole(0, 0, 0, 1), 1);
        due.is("12 all three go on behind", signs("AB+AB-AB").whole(0, 0, 0, 1), 0);
        due.is("12 but the least goes on behind", signs("A!+AB-AB").whole(0, 0, 0, 1), 1);
        due.is("12 two of three go on ahead", signs("+BA=BA!A").whole(0, 0, 2, 1), 1);
        due.is("12 all three go on ahead", signs("+BA=BA!BA").whole(0, 0, 2, 1), 0);
        due.is("12 but the least goes on ahead", signs("!A+BA=BA").whole(0, 0, 1, 1), 1);
        // The row ahead of the least start has more LINES that are like it, but they end at the same starts.
        due.is("12 the LINE ahead comes once more", signs("+A-+A=+!").whole(0, 0, 1, 1), 0);
    }

    private static void wholeAtTheEnds() {
        due.is("12 the last ROW ends with the CODE", signs("AB=A").whole(0, 0, 0, 1), 1);
        due.is("12 one LINE further, and the same", signs("AB=AB").whole(0, 0, 0, 1), 0);
        due.is("12 the first ROW begins with the CODE", signs("AB+CAB").whole(0, 0, 0, 2), 1);
        SameAgain x = Due.same("a", 20);
        for (int length = 1; length <= 19; length++) {
            due.is("12 of twenty all the same: " + length, x.whole(0, 0, 0, length), 1);
        }
        due.is("12 the whole CODE comes once", x.whole(0, 0, 0, 20), NO);
        due.is("12 ten and ten", signs("ABCDEFGHIJABCDEFGHIJ").whole(0, 0, 10, 10), 1);
        due.is("12 nine of ten, ahead", signs("ABCDEFGHIJABCDEFGHIJ").whole(0, 0, 10, 9), 0);
        due.is("12 nine of ten, behind", signs("ABCDEFGHIJABCDEFGHIJ").whole(0, 0, 11, 9), 0);
    }

    private static void wholeToldByAnyStart() {
        SameAgain x = signs("AB+AB-AB");
        for (int start = 0; start < 8; start += 3) {
            due.is("12 whole, by start " + start, x.whole(0, 0, start, 2), 1);
            due.is("12 not whole behind, by start " + start, x.whole(0, 0, start, 1), 0);
            due.is("12 not whole ahead, by start " + start, x.whole(0, 0, start + 1, 1), 0);
        }
    }

    private static void wholeByEachWay() {
        SameAgain number = Due.code("A", "1", "+", "A", "2");
        due.is("12 the numbers part them", number.whole(0, 1, 0, 1), 1);
        due.is("12 by WAY 2 they do not", number.whole(0, 2, 0, 1), 0);
        SameAgain name = Due.code("A", "a", "+", "A", "b");
        due.is("12 the names part them", name.whole(0, 0, 0, 1), 1);
        due.is("12 by WAY 1 they do not", name.whole(0, 1, 0, 1), 0);
        due.is("12 one LINE more is one for one, too", Due.code("a", "ab", "-", "c", "cd").whole(0, 1, 0, 1), 0);
        due.is("12 one LINE more is not one for one", Due.code("a", "ab", "-", "c", "dc").whole(0, 1, 0, 1), 1);
        due.is("12 ahead it is not one for one", Due.code("ab", "=a", "-", "cd", "=d").whole(0, 1, 1, 1), 1);
        due.is("12 ahead it is", Due.code("ab", "=a", "-", "cd", "=c").whole(0, 1, 1, 1), 0);
    }

    /** The first VERSION and the last of four: what the one has and the other has not, asked in turn. */
    private static void eachVersionByItself() {
        SameAgain x = signs("AB+AB");
        for (int v = 1; v < 4; v++) {
            x.version();
        }
        Due.change(x, 3, "-");
        Due.change(x, 4, "!");
        int[] wantFirst = {2, 0, 3};
        for (int turn = 0; turn < 2; turn++) {
            for (int what = 0; what < 3; what++) {
                due.is("9 VERSION 0, what " + what, x.longest(0, 0, what), wantFirst[what]);
                due.is("9 VERSION 3, what " + what, x.longest(3, 0, what), NONE);
            }
            due.is("10 VERSION 0", x.like(0, 0, 0, 2), 0b01001);
            due.is("10 VERSION 3", x.like(3, 0, 0, 2), 0b00001);
            due.is("11 VERSION 0", x.groups(0, 0, 2, -1), 1);
            due.is("11 VERSION 3", x.groups(3, 0, 2, -1), 0);
            due.is("12 VERSION 0", x.whole(0, 0, 0, 2), 1);
            due.is("12 VERSION 3", x.whole(3, 0, 0, 2), NO);
        }
    }

    private static void wholeRefused() {
        SameAgain x = Due.same("a", 4);
        for (int way : NOT_ZERO_TO_TWO) {
            due.is("12 WAY " + way, x.whole(0, way, 0, 1), OUTSIDE);
        }
        for (int start : NOT_A_START) {
            due.is("12 start " + start, x.whole(0, 0, start, 1), OUTSIDE);
        }
        for (int length : NOT_A_LENGTH) {
            due.is("12 OUTSIDE goes ahead of NO: length " + length, x.whole(0, 0, 19, length), OUTSIDE);
        }
        for (int version : NOT_A_VERSION) {
            due.is("12 VERSION " + version, x.whole(version, 3, 20, 0), UNKNOWN);
        }
    }
}

/** Each promise of the document in turn: ordinary inputs, the edges that it names, and wrong inputs. */
public final class PromiseTest {
    private static final int NONE = SameAgain.NONE;
    private static final int UNKNOWN = SameAgain.UNKNOWN;
    private static final int OUTSIDE = SameAgain.OUTSIDE;
    private static final int STATE = SameAgain.STATE;
    private static final int FULL = SameAgain.FULL;
    private static final int NO = SameAgain.NO;
    private static final int MOST = Integer.MAX_VALUE;
    private static final int LEAST = Integer.MIN_VALUE;
    private static final int[] NOT_A_WAY = {-1, 3, MOST, LEAST};
    private static final int[] NOT_A_START = {-1, 20, MOST, LEAST};
    private static final int[] NOT_A_LENGTH = {0, -1, 21, MOST, LEAST};
    private static final int[] NOT_ZERO_TO_TWO = {-1, 3, MOST, LEAST};

    private static final Due due = new Due();

    public static void main(String[] args) {
        newObject();
        say();
        wipe();
        line();
        change();
        version();
        sign();
        alikeByEachWay();
        alikeAtTheEdges();
        longest();
        like();
        groups();
        whole();
        pulled();
        best();
        two();
        forgotten();
        parted();
        mends();
        mend();
        far();
        near();
        images();
        told();
        due.end();
    }

    private static SameAgain fullCode() {
        SameAgain x = new SameAgain();
        for (int i = 0; i < 20; i++) {
            Due.say(x, "a");
            x.line();
        }
        return x;
    }

    private static void newObject() {
        SameAgain x = new SameAgain();
        due.is("1 new: signs", x.told(0), 0);
        due.is("1 new: lines", x.told(1), 0);
        due.is("1 new: versions", x.told(2), 1);
        due.is("1 new: no line", x.sign(0, 0, -1), UNKNOWN);
        due.is("1 new: version 0 is there", x.like(0, 0, 0, 1), 0);
        due.is("1 new: version 1 is not", x.like(1, 0, 0, 1), UNKNOWN);
        due.is("1 new: image 0", x.restore(0), STATE);
        due.is("1 new: image 1", x.restore(1), STATE);
        SameAgain y = new SameAgain();
        y.say('a');
        y.line();
        due.is("1 objects share nothing", x.told(1), 0);
    }

    private static void say() {
        SameAgain x = new SameAgain();
        for (int sign : new int[] {32, 127, 0, -1, 97 + 256, 97 + 65536, MOST, LEAST}) {
            due.is("2 say " + sign, x.say(sign), OUTSIDE);
        }
        due.is("2 refused says leave the pad", x.told(0), 0);
        int[] signs = {33, 126, 'a', 'z', '0', '9', 'A', '~'};
        for (int i = 0; i < 8; i++) {
            due.is("2 say " + signs[i], x.say(signs[i]), i + 1);
        }
        due.is("2 a ninth", x.say('a'), FULL);
        due.is("2 a ninth that is no sign", x.say(32), OUTSIDE);
        due.is("2 it stays at eight", x.told(0), 8);
        x.line();
        for (int i = 0; i < 8; i++) {
            due.is("2 the sign " + i, x.sign(0, 0, i), signs[i]);
        }
    }

    private static void wipe() {
        SameAgain x = new SameAgain();
        due.is("3 wipe nothing", x.wipe(), 0);
        Due.say(x, "abc");
        due.is("3 wipe", x.wipe(), 3);
        due.is("3 wipe again", x.wipe(), 0);
        due.is("3 no signs left", x.line(), NO);
        due.is("3 it begins again", x.say('z'), 1);
        x.line();
        due.is("3 just the new one", x.sign(0, 0, 0), 'z');
        due.is("3 of one sign", x.sign(0, 0, -1), 1);
    }

    private static void line() {
        SameAgain x = new SameAgain();
        due.is("4 no signs", x.line(), NO);
        due.is("4 nothing came", x.told(1), 0);
        for (int i = 0; i < 20; i++) {
            Due.say(x, "ab");
            due.is("4 line", x.line(), i);
            due.is("4 the pad is empty", x.told(0), 0);
        }
        due.is("4 FULL goes ahead of NO", x.line(), FULL);
        Due.say(x, "q");
        due.is("4 a line too many", x.line(), FULL);
        due.is("4 the pad stays", x.told(0), 1);
        due.is("4 the lines stay", x.told(1), 20);
        due.is("4 the last line", x.sign(0, 19, 1), 'b');
        due.is("4 none behind it", x.sign(0, 20, 0), UNKNOWN);

        SameAgain y = Due.code("a");
        y.version();
        y.version();
        Due.say(y, "b+");
        due.is("4 a line behind new versions", y.line(), 1);
        for (int v = 0; v < 3; v++) {
            due.is("4 it is in version " + v, y.sign(v, 1, 0), 'b');
            due.is("4 whole in version " + v, y.sign(v, 1, -1), 2);
        }
    }

    private static void change() {
        SameAgain x = Due.code("abc", "d");
        due.is("5 no signs", x.change(0), NO);
        due.is("5 UNKNOWN goes ahead of NO", x.change(2), UNKNOWN);
        Due.say(x, "x");
        for (int line : new int[] {-1, 2, 20, MOST, LEAST}) {
            due.is("5 line " + line, x.change(line), UNKNOWN);
        }
        due.is("5 the pad stays", x.told(0), 1);
        due.is("5 change in version 0", x.change(0), 1);
        due.is("5 the pad is empty", x.told(0), 0);
        due.is("5 shorter now", x.sign(0, 0, -1), 1);
        due.is("5 the old tail is gone", x.sign(0, 0, 1), NONE);
        due.is("5 as many lines", x.told(1), 2);
        x.version();
        Due.change(x, 1, "1234");
        due.is("5 not in the earlier version", x.sign(0, 1, -1), 1);
        due.is("5 in the last one", x.sign(1, 1, 3), '4');
        due.is("5 line 0 as it was", x.sign(1, 0, 0), 'x');
    }

    private static void version() {
        SameAgain x = Due.code("a");
        due.is("6 version", x.version(), 1);
        Due.change(x, 0, "b");
        due.is("6 version", x.version(), 2);
        due.is("6 begins as the last one is", x.sign(2, 0, 0), 'b');
        Due.change(x, 0, "c");
        due.is("6 version", x.version(), 3);
        due.is("6 a fifth", x.version(), FULL);
        due.is("6 four it stays", x.told(2), 4);
        due.is("6 first", x.sign(0, 0, 0), 'a');
        due.is("6 second", x.sign(1, 0, 0), 'b');
        due.is("6 third", x.sign(2, 0, 0), 'c');
        due.is("6 fourth", x.sign(3, 0, 0), 'c');
        due.is("6 of no lines", new SameAgain().version(), 1);
    }

    private static void sign() {
        SameAgain x = Due.code("a=12345z");
        due.is("7 how many", x.sign(0, 0, -1), 8);
        due.is("7 the first", x.sign(0, 0, 0), 'a');
        due.is("7 the last", x.sign(0, 0, 7), 'z');
        for (int i : new int[] {8, 9, -2, -3, MOST, LEAST}) {
            due.is("7 sign " + i, x.sign(0, 0, i), NONE);
        }
        for (int v : new int[] {-1, 1, 4, MOST, LEAST}) {
            due.is("7 version " + v, x.sign(v, 0, 0), UNKNOWN);
        }
        for (int line : new int[] {-1, 1, 20, MOST, LEAST}) {
            due.is("7 line " + line, x.sign(0, line, -2), UNKNOWN);
        }
    }

    private static void alikeByEachWay() {
        areAlike("8 the same", 1, 1, 1, "a=1", "a=1");
        areAlike("8 another name", 0, 1, 1, "a=1", "b=1");
        areAlike("8 another number", 0, 0, 1, "a=1", "a=2");
        areAlike("8 another mark", 0, 0, 0, "a=1", "a+1");
        areAlike("8 great letters are marks", 0, 0, 0, "A", "B");
        areAlike("8 one sign more", 0, 0, 0, "a=1", "a=11");
        areAlike("8 a name for a number", 0, 0, 0, "a", "1");
        areAlike("8 a number for a name", 0, 0, 0, "1", "a");
        areAlike("8 a mark for a number", 0, 0, 0, "1", "+");
        areAlike("8 a mark for a name", 0, 0, 0, "a", "+");
        areAlike("8 ` is no name", 0, 0, 0, "a", "`");
        areAlike("8 { is no name", 0, 0, 0, "z", "{");
        areAlike("8 / is no number", 0, 0, 0, "0", "/");
        areAlike("8 : is no number", 0, 0, 0, "9", ":");
        areAlike("8 the last letters", 0, 1, 1, "az", "za");
        areAlike("8 the last numbers", 0, 0, 1, "09", "90");
        areAlike("8 two for one", 0, 0, 0, "ab", "cc");
        areAlike("8 one for two", 0, 0, 0, "cc", "ab");
        areAlike("8 names change places", 0, 1, 1, "ab", "ba");
        areAlike("8 two numbers for one", 0, 0, 1, "12", "33");
    }

    private static void areAlike(String what, int same, int renamed, int anyNumber, String one, String other) {
        SameAgain x = Due.code(one, other);
        int[] want = {same, renamed, anyNumber};
        for (int way = 0; way < 3; way++) {
            due.is(what + ", way " + way, x.alike(0, way, 0, 1, 1), want[way]);
            due.is(what + " turned round, way " + way, x.alike(0, way, 1, 0, 1), want[way]);
        }
    }

    private static void alikeAtTheEdges() {
        SameAgain x = Due.code("a=b", "b", "c=d", "c", "c=d", "d");
        due.is("8 throughout the row", x.alike(0, 1, 0, 2, 2), 0);
        due.is("8 throughout another", x.alike(0, 1, 0, 4, 2), 1);
        due.is("8 a row and itself", x.alike(0, 0, 3, 3, 3), 1);
        due.is("8 rows that cross", x.alike(0, 1, 0, 1, 2), 0);
        due.is("8 one beyond the end", x.alike(0, 1, 0, 5, 2), 0);
        due.is("8 the other way", x.alike(0, 1, 5, 0, 2), 0);
        due.is("8 itself beyond the end", x.alike(0, 0, 5, 5, 2), 0);
        due.is("8 a start that is not there", x.alike(0, 0, 19, 0, 1), 0);
        due.is("8 a length that is not there", x.alike(0, 0, 0, 0, 20), 0);
        due.is("8 all twenty", fullCode().alike(0, 0, 0, 0, 20), 1);
        for (int way : NOT_A_WAY) {
            due.is("8 way " + way, x.alike(0, way, 0, 2, 1), OUTSIDE);
        }
        for (int start : NOT_A_START) {
            due.is("8 one " + start, x.alike(0, 0, start, 0, 1), OUTSIDE);
            due.is("8 other " + start, x.alike(0, 0, 0, start, 1), OUTSIDE);
        }
        for (int length : NOT_A_LENGTH) {
            due.is("8 length " + length, x.alike(0, 0, 0, 0, length), OUTSIDE);
        }
        due.is("8 UNKNOWN goes ahead", x.alike(1, 3, 20, 20, 0), UNKNOWN);
        due.is("8 below 0", x.alike(-1, 0, 0, 0, 1), UNKNOWN);
    }

    private static void longest() {
        // By way 0 the two lines at 0 and 4, by way 1 three from 0 and 4, by way 2 all four.
        SameAgain x = Due.code("a=b", "b+1", "c", "d*2", "a=b", "b+1", "e", "f*3");
        isLongest("9", x, 0, 2, 0, 4);
        isLongest("9", x, 1, 3, 0, 4);
        isLongest("9", x, 2, 4, 0, 4);
        // aa aa: rows must not share a line.
        isLongest("9 all the same", Due.code("a", "a", "a", "a", "a"), 0, 2, 0, 2);
        isLongest("9 least i, then j", Due.code("x", "a", "b", "b", "a", "a"), 0, 1, 1, 4);
        isLongest("9 twenty lines", fullCode(), 2, 10, 0, 10);
        isLongest("9 none", Due.code("a", "a+"), 2, NONE, NONE, NONE);
        isLongest("9 one line", Due.code("a"), 2, NONE, NONE, NONE);
        isLongest("9 no line", new SameAgain(), 2, NONE, NONE, NONE);
        x.version();
        Due.change(x, 1, "!");
        due.is("9 in the new version", x.longest(1, 2, 0), 2);
        due.is("9 in the old version", x.longest(0, 2, 0), 4);
        for (int wrong : NOT_ZERO_TO_TWO) {
            due.is("9 what " + wrong, x.longest(0, 0, wrong), OUTSIDE);
            due.is("9 way " + wrong, x.longest(0, wrong, 0), OUTSIDE);
        }
        due.is("9 UNKNOWN goes ahead", x.longest(2, 3, 3), UNKNOWN);
    }

    private static void isLongest(String what, SameAgain x, int way, int n, int i, int j) {
        due.is(what + " n", x.longest(0, way, 0), n);
        due.is(what + " i", x.longest(0, way, 1), i);
        due.is(what + " j", x.longest(0, way, 2), j);
    }

    private static void like() {
        SameAgain x = Due.code("a1", "b1", "a2", "a1", "a");
        due.is("10 way 0", x.like(0, 0, 0, 1), 0b01001);
        due.is("10 way 1", x.like(0, 1, 3, 1), 0b01011);
        due.is("10 way 2", x.like(0, 2, 2, 1), 0b01111);
        due.is("10 itself", x.like(0, 2, 4, 1), 0b10000);
        due.is("10 rows may cross", x.like(0, 2, 0, 2), 0b00011);
        due.is("10 up to the end", x.like(0, 0, 3, 2), 0b01000);
        due.is("10 beyond the end", x.like(0, 0, 4, 2), 0);
        due.is("10 not there", x.like(0, 0, 5, 1), 0);
        due.is("10 the last start", x.like(0, 0, 19, 20), 0);
        due.is("10 all twenty", fullCode().like(0, 0, 7, 1), 0xFFFFF);
        due.is("10 rows that cross", fullCode().like(0, 0, 1, 19), 0b11);
        for (int way : NOT_A_WAY) {
            due.is("10 way " + way, x.like(0, way, 0, 1), OUTSIDE);
        }
        for (int start : NOT_A_START) {
            due.is("10 start " + start, x.like(0, 0, start, 1), OUTSIDE);
        }
        for (int length : NOT_A_LENGTH) {
            due.is("10 length " + length, x.like(0, 0, 0, length), OUTSIDE);
        }
        due.is("10 UNKNOWN goes ahead", x.like(-1, 3, 20, 0), UNKNOWN);
    }

    private static void groups() {
        SameAgain x = Due.code("+", "a", "1", "a", "1", "b", "2");
        due.is("11 how many by way 0", x.groups(0, 0, 1, -1), 2);
        due.is("11 the first", x.groups(0, 0, 1, 0), 1);
        due.is("11 the second", x.groups(0, 0, 1, 1), 2);
        due.is("11 no third", x.groups(0, 0, 1, 2), NONE);
        due.is("11 below -1", x.groups(0, 0, 1, -2), NONE);
        due.is("11 the least number", x.groups(0, 0, 1, LEAST), NONE);
        due.is("11 the greatest number", x.groups(0, 0, 1, MOST), NONE);
        due.is("11 two lines", x.groups(0, 0, 2, -1), 1);
        due.is("11 two lines by way 2", x.groups(0, 2, 2, -1), 2);
        due.is("11 their second", x.groups(0, 2, 2, 1), 2);
        due.is("11 none of seven", x.groups(0, 2, 7, -1), 0);
        due.is("11 none of twenty", x.groups(0, 2, 20, -1), 0);
        due.is("11 no first of none", x.groups(0, 2, 20, 0), NONE);
        due.is("11 from the first line on", Due.code("a", "+", "a").groups(0, 0, 1, 0), 0);
        due.is("11 one row alone is none", Due.code("a", "+").groups(0, 2, 1, -1), 0);
        for (int way : NOT_A_WAY) {
            due.is("11 way " + way, x.groups(0, way, 1, -1), OUTSIDE);
        }
        for (int length : NOT_A_LENGTH) {
            due.is("11 length " + length, x.groups(0, 0, length, -2), OUTSIDE);
        }
        due.is("11 UNKNOWN goes ahead", x.groups(1, 3, 0, -1), UNKNOWN);
    }

    private static void whole() {
        SameAgain x = Due.code("(", "a", "b", ")", "+", "(", "a", "b", ")", "-", "a");
        due.is("12 could be longer behind", x.whole(0, 0, 0, 3), 0);
        due.is("12 could be longer ahead", x.whole(0, 0, 2, 2), 0);
        due.is("12 the greatest", x.whole(0, 0, 0, 4), 1);
        due.is("12 told by another start", x.whole(0, 0, 5, 4), 1);
        due.is("12 not told by the least, and within", x.whole(0, 0, 6, 2), 0);
        due.is("12 three of which two go on", x.whole(0, 0, 1, 1), 1);
        due.is("12 one start", x.whole(0, 0, 4, 1), NO);
        due.is("12 beyond the end", x.whole(0, 0, 10, 2), NO);
        due.is("12 not there", x.whole(0, 0, 19, 1), NO);
        due.is("12 the length twenty", fullCode().whole(0, 0, 0, 20), NO);
        due.is("12 nineteen of twenty", fullCode().whole(0, 0, 1, 19), 1);
        // At the start 0 there is nothing ahead.
        due.is("12 from the first line on", Due.code("a", "+", "a").whole(0, 0, 2, 1), 1);
        // The line ahead is alike at some starts, but further on, too.
        due.is("12 more starts ahead", Due.code("+", "a", "+", "a", "+", "b").whole(0, 0, 1, 1), 0);
        for (int way : NOT_A_WAY) {
            due.is("12 way " + way, x.whole(0, way, 0, 1), OUTSIDE);
        }
        for (int start : NOT_A_START) {
            due.is("12 start " + start, x.whole(0, 0, start, 1), OUTSIDE);
        }
        for (int length : NOT_A_LENGTH) {
            due.is("12 length " + length, x.whole(0, 0, 0, length), OUTSIDE);
        }
        due.is("12 UNKNOWN goes ahead", x.whole(4, 3, 20, 0), UNKNOWN);
    }

    private static void pulled() {
        SameAgain x = Due.code("a=b+1", "b=a", "c=d+2", "d=c", "e=f+2", "f=e");
        due.is("13 taken", x.pulled(0, 2, 2, 2, 0), 0b10101);
        due.is("13 told: a, b and the number", x.pulled(0, 2, 2, 2, 1), 3);
        due.is("13 saves 6 - 3 - 3 - 3", x.pulled(0, 2, 2, 2, 2), -3);
        due.is("13 by way 1", x.pulled(0, 1, 4, 2, 0), 0b10100);
        due.is("13 the number is the same there", x.pulled(0, 1, 4, 2, 1), 2);
        due.is("13 by way 1 alone", x.pulled(0, 1, 0, 2, 0), -1005);
        due.is("13 beyond the end", x.pulled(0, 2, 5, 2, 0), -1005);
        due.is("13 not there", x.pulled(0, 2, 19, 20, 1), -1005);
        due.is("13 what that one saves", x.pulled(0, 0, 0, 1, 2), -1005);

        SameAgain y = Due.code("a", "a", "a", "a", "a");
        due.is("13 those that cross are not taken", y.pulled(0, 0, 1, 2, 0), 0b00101);
        due.is("13 two that cross", y.pulled(0, 0, 0, 4, 0), -1005);
        due.is("13 nothing to be told", y.pulled(0, 0, 0, 2, 1), 0);
        due.is("13 saves 4 - 3 - 2", y.pulled(0, 0, 0, 2, 2), -1);

        // The same at both places in two rows, not in the third: told twice.
        SameAgain z = Due.code("1+1", "2+2", "3+4");
        due.is("13 not the same at both in each", z.pulled(0, 2, 0, 1, 1), 2);
        due.is("13 not in the first", Due.code("3+4", "1+1", "2+2").pulled(0, 2, 0, 1, 1), 2);
        due.is("13 not in the second", Due.code("1+1", "3+4", "2+2").pulled(0, 2, 0, 1, 1), 2);
        due.is("13 the same at both in each", Due.code("1+1", "2+2", "3+3").pulled(0, 2, 0, 1, 1), 1);
        due.is("13 the same across lines", Due.code("1", "1", "+", "2", "2").pulled(0, 2, 0, 2, 1), 1);
        // A name and a number never are the same; a row's first sign may be another row's second.
        due.is("13 crosswise is not the same", Due.code("ab", "ba").pulled(0, 1, 0, 1, 1), 2);

        for (int wrong : NOT_ZERO_TO_TWO) {
            due.is("13 way " + wrong, x.pulled(0, wrong, 0, 1, 0), -1002);
            due.is("13 what " + wrong, x.pulled(0, 0, 0, 1, wrong), -1002);
        }
        for (int start : NOT_A_START) {
            due.is("13 start " + start, x.pulled(0, 0, start, 1, 0), -1002);
        }
        for (int length : NOT_A_LENGTH) {
            due.is("13 length " + length, x.pulled(0, 0, 0, length, 0), -1002);
        }
        due.is("13 UNKNOWN goes ahead", x.pulled(1, 3, 20, 0, 3), -1001);
    }

    private static void best() {
        String[] lines = new String[20];
        for (int i = 0; i < 20; i++) {
            lines[i] = String.valueOf((char) ('A' + i % 5));
        }
        SameAgain x = Due.code(lines);
        // Four times five lines: 20 - 6 - 4 = 10.
        isBest("14 four times five", x, 0, 10, 0, 5);
        // Five lines twice save 10 - 6 - 2 = 2, four of them 8 - 5 - 2 = 1.
        isBest("14 twice five", Due.code("!", "A", "B", "C", "D", "E", "-", "A", "B", "C", "D", "E"), 0, 2, 1, 5);
        // Two groups of four lines, twice each, save 8 - 5 - 2 = 1 each.
        isBest("14 of as many lines the least start",
            Due.code("A", "B", "C", "D", "+", "E", "F", "G", "H", "-", "A", "B", "C", "D", "*", "E", "F", "G", "H"),
            0, 1, 0, 4);
        // Two lines four times save 8 - 3 - 4 = 1, three lines three times 9 - 4 - 3 = 2, four lines twice 8 - 5 - 2 = 1.
        isBest("14 of nine the same", Due.code("A", "A", "A", "A", "A", "A", "A", "A", "A"), 0, 2, 0, 3);
        // Two lines four times and four lines twice save 1: the least length.
        isBest("14 of eight the same", Due.code("A", "A", "A", "A", "A", "A", "A", "A"), 0, 1, 0, 2);
        isBest("14 seven the same", Due.code("A", "A", "A", "A", "A", "A", "A"), 0, NONE, NONE, NONE);
        isBest("14 none", new SameAgain(), 0, NONE, NONE, NONE);
        SameAgain y = Due.code("a", "1", "+", "(", "*", "b", "2", "+", "(", "*");
        isBest("14 by way 0", y, 0, NONE, NONE, NONE);
        isBest("14 by way 1", y, 1, NONE, NONE, NONE);
        isBest("14 by way 2", y, 2, NONE, NONE, NONE);
        SameAgain z = Due.code("1", ".", "+", "(", "*", "/", "2", ".", "+", "(", "*", "/");
        // Five marks twice: 10 - 6 - 2 = 2; with the number 12 - 7 - 2 - 1 = 2: the least length.
        isBest("14 told costs", z, 2, 2, 1, 5);
        for (int wrong : NOT_ZERO_TO_TWO) {
            due.is("14 way " + wrong, x.best(0, wrong, 0), OUTSIDE);
            due.is("14 what " + wrong, x.best(0, 0, wrong), OUTSIDE);
        }
        due.is("14 UNKNOWN goes ahead", x.best(1, 3, 3), UNKNOWN);
    }

    private static void isBest(String what, SameAgain x, int way, int saves, int start, int length) {
        due.is(what + " saves", x.best(0, way, 0), saves);
        due.is(what + " start", x.best(0, way, 1), start);
        due.is(what + " length", x.best(0, way, 2), length);
    }

    private static void two() {
        SameAgain x = Due.code("A", "B", "C", "D", "+", "E", "F", "G", "H", "-", "A", "B", "C", "D", "*", "E", "F", "G", "H");
        due.is("15 two of four lines, twice each", x.two(0, 0), 2);
        SameAgain one = Due.code("A", "B", "C", "D", "-", "A", "B", "C", "D", "*");
        due.is("15 one alone", one.two(0, 0), 1);
        // Three lines six times save 18 - 4 - 6 = 8; all others begin at line 0, too.
        SameAgain same = new SameAgain();
        for (int i = 0; i < 18; i++) {
            Due.say(same, "A");
            same.line();
        }
        due.is("15 all that cross", same.two(0, 0), same.best(0, 0, 0));
        due.is("15 all that cross: 8", same.two(0, 0), 8);
        due.is("15 none", Due.code("A", "A").two(0, 0), 0);
        due.is("15 no lines", new SameAgain().two(0, 2), 0);
        // The second one shares a line with a taken row that is not the first one.
        SameAgain shared = Due.code("A", "B", "C", "D", "+", "A", "B", "C", "D", "E", "F", "G", "-", "D", "E", "F", "G");
        due.is("15 a line shared in a later row", shared.two(0, 0), 1);
        // By way 2 two that save 1 each, by way 0 the first alone: no call leaves anything to the next.
        SameAgain y = Due.code("A", "B", "C", "D", "+", "F", "G", "1", "H", "J", "-",
            "A", "B", "C", "D", "F", "G", "2", "H", "J");
        due.is("15 two by way 2", y.two(0, 2), 2);
        due.is("15 one by way 0", y.two(0, 0), 1);
        for (int way : NOT_A_WAY) {
            due.is("15 way " + way, x.two(0, way), OUTSIDE);
        }
        due.is("15 UNKNOWN goes ahead", x.two(1, 3), UNKNOWN);
        due.is("15 below 0", x.two(-1, 0), UNKNOWN);
    }

    private static void forgotten() {
        SameAgain x = Due.code("a=b", "a+a", "c=d", "c+a", "c=d", "c+c", "e=f1", "e=f2", "x", "y", "z");
        isForgotten("16 a for c", x, 0, 2, 2, 12, 'c');
        isForgotten("16 alike", x, 0, 4, 2, NONE, NONE);
        isForgotten("16 not by a number", x, 6, 7, 1, NONE, NONE);
        isForgotten("16 shares a line", x, 0, 1, 2, NONE, NONE);
        isForgotten("16 shares a line, and would be alike", Due.code("aa", "aa", "ab"), 0, 1, 2, NONE, NONE);
        isForgotten("16 shares none", Due.code("aa", "aa", "aa", "ab"), 0, 2, 2, 11, 'a');
        isForgotten("16 the same row", x, 0, 0, 2, NONE, NONE);
        isForgotten("16 beyond the end", x, 0, 10, 2, NONE, NONE);
        isForgotten("16 the first beyond the end", x, 10, 0, 2, NONE, NONE);
        isForgotten("16 not there", x, 0, 19, 1, NONE, NONE);
        // "ab" beside "cc": the first place, and the first name that is not c.
        isForgotten("16 of several the first", Due.code("ab", "cc"), 0, 1, 1, 0, 'a');
        isForgotten("16 the first free name", Due.code("abc", "aab"), 0, 1, 1, 0, 'c');
        isForgotten("16 one for two", Due.code("aa", "ab"), 0, 1, 1, 0, 'b');
        isForgotten("16 of the second row alone", Due.code("ab", "cc"), 1, 0, 1, 0, 'b');
        isForgotten("16 another name there, not a free one", Due.code("aabb", "ccdc"), 0, 1, 1, 3, 'd');
        isForgotten("16 two forgotten", Due.code("aabb", "cdce"), 0, 1, 1, NONE, NONE);
        isForgotten("16 behind ten lines",
            Due.code("a", "b", "c", "d", "e", "f", "g", "h", "i", "+++++j+i", "a", "b", "c", "d", "e", "f", "g", "h", "i", "+++++j+j"),
            0, 10, 10, 97, 'i');
        isForgotten("16 a mark stands there", Due.code("a", "+"), 0, 1, 1, NONE, NONE);
        isForgotten("16 no name in the second", Due.code("a", "1"), 0, 1, 1, NONE, NONE);
        for (int start : NOT_A_START) {
            due.is("16 one " + start, x.forgotten(0, start, 0, 1, 0), OUTSIDE);
            due.is("16 other " + start, x.forgotten(0, 0, start, 1, 0), OUTSIDE);
        }
        for (int length : NOT_A_LENGTH) {
            due.is("16 length " + length, x.forgotten(0, 0, 1, length, 0), OUTSIDE);
        }
        for (int what : new int[] {-1, 2, MOST, LEAST}) {
            due.is("16 what " + what, x.forgotten(0, 0, 2, 2, what), OUTSIDE);
        }
        due.is("16 UNKNOWN goes ahead", x.forgotten(1, 20, 20, 0, 2), UNKNOWN);
    }

    private static void isForgotten(String what, SameAgain x, int one, int other, int length, int place, int name) {
        due.is(what + ": place", x.forgotten(0, one, other, length, 0), place);
        due.is(what + ": name", x.forgotten(0, one, other, length, 1), name);
    }

    private static void parted() {
        SameAgain x = Due.code("a1", "b1", "c");
        due.is("17 one version", x.parted(1, 0, 1, 1), NONE);
        due.is("17 never alike", x.parted(1, 0, 2, 1), NONE);
        SameAgain soon = Due.code("a", "b");
        soon.version();
        Due.change(soon, 0, "+");
        due.is("17 parted at once", soon.parted(1, 0, 1, 1), 1);
        x.version();
        due.is("17 still alike", x.parted(1, 0, 1, 1), NONE);
        x.version();
        Due.change(x, 0, "a2");
        due.is("17 parted by way 1", x.parted(1, 0, 1, 1), 2);
        due.is("17 not by way 2", x.parted(2, 0, 1, 1), NONE);
        due.is("17 never alike by way 0", x.parted(0, 0, 1, 1), NONE);
        x.version();
        Due.change(x, 1, "b2");
        due.is("17 alike again, but parted once", x.parted(1, 1, 0, 1), 2);

        SameAgain y = Due.code("a", "+");
        y.version();
        Due.change(y, 1, "b");
        y.version();
        due.is("17 alike from version 1 on", y.parted(1, 0, 1, 1), NONE);
        y.version();
        Due.change(y, 1, "+");
        due.is("17 alike in between", y.parted(1, 0, 1, 1), 3);
        due.is("17 itself", y.parted(0, 1, 1, 1), NONE);
        due.is("17 not wholly there", y.parted(0, 0, 1, 2), NONE);
        due.is("17 no lines", new SameAgain().parted(0, 0, 19, 20), NONE);
        for (int way : NOT_A_WAY) {
            due.is("17 way " + way, y.parted(way, 0, 1, 1), OUTSIDE);
        }
        for (int start : NOT_A_START) {
            due.is("17 one " + start, y.parted(0, start, 0, 1), OUTSIDE);
            due.is("17 other " + start, y.parted(0, 0, start, 1), OUTSIDE);
        }
        for (int length : NOT_A_LENGTH) {
            due.is("17 length " + length, y.parted(0, 0, 1, length), OUTSIDE);
        }
    }

    /** Rows 0 and 3 of three lines are alike by way 1; behind version 0 lines 0, 2 of the first and 5 were changed. */
    private static SameAgain mendedCode() {
        SameAgain x = Due.code("a=b", "b=a", "(c)", "p=q", "q=p", "(c)");
        x.version();
        Due.change(x, 0, "a=b+c*zp");
        Due.change(x, 2, "(c+1)");
        Due.change(x, 5, "(c-1)");
        Due.change(x, 1, "b=a");
        x.version();
        return x;
    }

    private static void mends() {
        SameAgain x = mendedCode();
        due.is("18 line 0 alone", x.mends(0, 0, 3, 3), 0b001);
        due.is("18 turned round", x.mends(0, 3, 0, 3), 0);
        due.is("18 of one line", x.mends(0, 0, 3, 1), 0b001);
        due.is("18 not alike", x.mends(0, 0, 2, 1), 0);
        due.is("18 not wholly there", x.mends(0, 0, 4, 3), 0);
        due.is("18 not there", x.mends(0, 0, 19, 20), 0);
        due.is("18 itself", x.mends(0, 0, 0, 3), 0);
        due.is("18 nothing changed", x.mends(1, 0, 0, 6), 0);
        SameAgain y = Due.code("a", "b", "c", "d");
        y.version();
        Due.change(y, 0, "1");
        Due.change(y, 1, "ab");
        due.is("18 both lines", y.mends(0, 0, 2, 2), 0b11);
        due.is("18 rows that cross", y.mends(0, 0, 1, 3), 0b010);
        for (int v : new int[] {2, 3, -1, MOST, LEAST}) {
            due.is("18 version " + v, x.mends(v, 0, 3, 3), UNKNOWN);
        }
        for (int start : NOT_A_START) {
            due.is("18 one " + start, x.mends(0, start, 0, 1), OUTSIDE);
            due.is("18 other " + start, x.mends(0, 0, start, 1), OUTSIDE);
        }
        for (int length : NOT_A_LENGTH) {
            due.is("18 length " + length, x.mends(0, 0, 3, length), OUTSIDE);
        }
        due.is("18 UNKNOWN goes ahead", x.mends(2, 20, 20, 0), UNKNOWN);
        due.is("18 one version alone", Due.code("a", "b").mends(0, 0, 1, 1), UNKNOWN);
    }

    private static void mend() {
        SameAgain x = mendedCode();
        // a and b become p and q, c stays c by line 2, z stands not there, p of the first row neither.
        String read = "p=q+c*zp";
        due.is("19 how many", x.mend(0, 0, 3, 3, 0, -1), 8);
        for (int i = 0; i < 8; i++) {
            due.is("19 sign " + i, x.mend(0, 0, 3, 3, 0, i), read.charAt(i));
        }
        for (int i : new int[] {8, -2, MOST, LEAST}) {
            due.is("19 sign " + i, x.mend(0, 0, 3, 3, 0, i), NONE);
        }
        due.is("19 changed into the same", x.mend(0, 0, 3, 3, 1, -1), NO);
        due.is("19 changed in both", x.mend(0, 0, 3, 3, 2, -1), NO);
        due.is("19 NO goes ahead of NONE", x.mend(0, 0, 3, 3, 2, -2), NO);
        due.is("19 turned round", x.mend(0, 3, 0, 3, 0, 0), NO);
        due.is("19 not alike", x.mend(0, 0, 2, 1, 0, 0), NO);
        due.is("19 not wholly there", x.mend(0, 0, 4, 3, 0, 0), NO);

        // A later line tells what a name is beside; the version behind does not.
        SameAgain y = Due.code("a", "b", "x", "y");
        y.version();
        Due.change(y, 0, "ba");
        due.is("19 by the whole row", y.mend(0, 0, 2, 2, 0, 0), 'y');
        due.is("19 by the whole row", y.mend(0, 0, 2, 2, 0, 1), 'x');
        due.is("19 by the one line", y.mend(0, 0, 2, 1, 0, 0), 'b');
        Due.change(y, 1, "b+a1");
        due.is("19 the second line: how many", y.mend(0, 0, 2, 2, 1, -1), 4);
        due.is("19 the second line: the third sign", y.mend(0, 0, 2, 2, 1, 2), 'x');
        SameAgain numbers = Due.code("a1", "b2");
        numbers.version();
        Due.change(numbers, 0, "a3");
        due.is("18 alike by way 2 alone", numbers.mends(0, 0, 1, 1), 0);
        due.is("19 alike by way 2 alone", numbers.mend(0, 0, 1, 1, 0, 0), NO);

        for (int k : new int[] {-1, 3, 20, MOST, LEAST}) {
            due.is("19 k " + k, x.mend(0, 0, 3, 3, k, 0), OUTSIDE);
        }
        for (int start : NOT_A_START) {
            due.is("19 one " + start, x.mend(0, start, 0, 1, 0, 0), OUTSIDE);
            due.is("19 other " + start, x.mend(0, 0, start, 1, 0, 0), OUTSIDE);
        }
        for (int length : NOT_A_LENGTH) {
            due.is("19 length " + length, x.mend(0, 0, 3, length, 0, 0), OUTSIDE);
        }
        for (int v : new int[] {2, 3, -1, MOST, LEAST}) {
            due.is("19 version " + v, x.mend(v, 0, 3, 3, 0, 0), UNKNOWN);
        }
        due.is("19 UNKNOWN goes ahead", x.mend(2, 20, 20, 0, -1, 0), UNKNOWN);
    }

    private static void far() {
        isFar("20 the same", "a=1", "a=1", 0);
        isFar("20 name for name", "a=1", "b=1", 1);
        isFar("20 number for number", "a=1", "a=2", 1);
        isFar("20 mark for mark", "a=1", "a+1", 3);
        isFar("20 number for name", "a", "1", 3);
        isFar("20 mark for name", "a", "A", 3);
        isFar("20 one put in", "a=1", "a=1;", 2);
        isFar("20 seven put in", "a", "abcdefgh", 14);
        isFar("20 out at the front, in at the end", "+abc", "abc+", 4);
        isFar("20 a turn", "+-", "-+", 4);
        isFar("20 all eight", "abcdefgh", "12345678", 24);
        isFar("20 marks of eight", "!!!!!!!!", "????????", 24);
        isFar("20 first and last letters and numbers", "az09", "za90", 4);
        SameAgain x = Due.code("a", "b");
        x.version();
        Due.change(x, 1, "+");
        due.is("20 in version 0", x.far(0, 0, 1), 1);
        due.is("20 in version 1", x.far(1, 0, 1), 3);
        for (int line : new int[] {-1, 2, 20, MOST, LEAST}) {
            due.is("20 line " + line, x.far(0, line, 0), UNKNOWN);
            due.is("20 other " + line, x.far(0, 0, line), UNKNOWN);
            due.is("20 version " + line, x.far(line, 0, 0), UNKNOWN);
        }
    }

    private static void isFar(String what, String one, String other, int cost) {
        SameAgain x = Due.code(one, other);
        due.is(what, x.far(0, 0, 1), cost);
        due.is(what + ", turned round", x.far(0, 1, 0), cost);
    }

    private static void near() {
        SameAgain x = Due.code("a", "b", "1", "ab", "a", "!!!!!!!!", "abcdefgh");
        due.is("21 cost 0", x.near(0, 0, 0), 0b0010001);
        due.is("21 not line 0", x.near(0, 6, 0), 0b1000000);
        due.is("21 cost 1", x.near(0, 0, 1), 0b0010011);
        due.is("21 cost 2", x.near(0, 0, 2), 0b0011011);
        due.is("21 cost 3", x.near(0, 0, 3), 0b0011111);
        due.is("21 cost 23", x.near(0, 6, 23), 0b1011111);
        due.is("21 cost 24", x.near(0, 6, 24), 0b1111111);
        due.is("21 all twenty", fullCode().near(0, 19, 0), 0xFFFFF);
        for (int cost : new int[] {-1, 25, MOST, LEAST}) {
            due.is("21 cost " + cost, x.near(0, 0, cost), OUTSIDE);
        }
        for (int line : new int[] {-1, 7, 20, MOST, LEAST}) {
            due.is("21 line " + line, x.near(0, line, 25), UNKNOWN);
            due.is("21 version " + line, x.near(line, 0, 25), UNKNOWN);
        }
    }

    private static void images() {
        SameAgain x = Due.code("abc", "d");
        for (int n : new int[] {-1, 2, MOST, LEAST}) {
            due.is("22 image " + n, x.image(n), OUTSIDE);
            due.is("23 restore " + n, x.restore(n), OUTSIDE);
        }
        due.is("22 image 1", x.image(1), 1);
        due.is("23 the other was not kept", x.restore(0), STATE);
        x.version();
        Due.change(x, 0, "z");
        due.is("22 image 0", x.image(0), 1);
        Due.say(x, "new");
        x.line();
        x.version();
        Due.say(x, "pad");

        due.is("23 restore 1", x.restore(1), 1);
        due.is("23 lines of then", x.told(1), 2);
        due.is("23 versions of then", x.told(2), 1);
        due.is("23 signs of then", x.sign(0, 0, -1), 3);
        due.is("23 the version is gone", x.sign(1, 0, 0), UNKNOWN);
        due.is("23 the pad is no code", x.told(0), 3);
        x.wipe();

        due.is("23 restore 0", x.restore(0), 1);
        due.is("23 two versions", x.told(2), 2);
        due.is("23 the changed line", x.sign(1, 0, 0), 'z');
        due.is("23 the line ahead", x.sign(0, 0, 1), 'b');
        Due.change(x, 0, "q");
        due.is("23 again", x.restore(0), 1);
        due.is("23 the image was not changed", x.sign(1, 0, 0), 'z');
        Due.change(x, 1, "k");
        due.is("22 kept anew", x.image(1), 1);
        Due.change(x, 1, "m");
        due.is("23 restore the new one", x.restore(1), 1);
        due.is("23 it is the new one", x.sign(1, 1, 0), 'k');

        SameAgain y = new SameAgain();
        due.is("22 of no lines", y.image(0), 1);
        Due.say(y, "a");
        y.line();
        due.is("23 of no lines", y.restore(0), 1);
        due.is("23 no lines again", y.told(1), 0);
        due.is("23 none is like", y.like(0, 0, 0, 1), 0);

        SameAgain z = Due.code("a");
        z.image(0);
        Due.say(z, "a");
        z.line();
        due.is("23 like in two lines", z.like(0, 0, 1, 1), 0b11);
        z.restore(0);
        due.is("23 the line that is gone is like none", z.like(0, 0, 1, 1), 0);
        due.is("23 nothing is like it", z.like(0, 0, 0, 1), 0b1);
    }

    private static void told() {
        SameAgain x = Due.code("abc", "d");
        x.version();
        Due.say(x, "12345");
        due.is("24 signs", x.told(0), 5);
        due.is("24 lines", x.told(1), 2);
        due.is("24 versions", x.told(2), 2);
        for (int what : NOT_ZERO_TO_TWO) {
            due.is("24 what " + what, x.told(what), OUTSIDE);
        }
    }
}

/** The edges that promises 1 to 8 and their terms name: signs, LINES, VERSIONS, and rows that are ALIKE. */
public final class LinesEdgeTest {
    private static final int NONE = SameAgain.NONE;
    private static final int UNKNOWN = SameAgain.UNKNOWN;
    private static final int OUTSIDE = SameAgain.OUTSIDE;
    private static final int STATE = SameAgain.STATE;
    private static final int FULL = SameAgain.FULL;
    private static final int NO = SameAgain.NO;
    private static final int MOST = Integer.MAX_VALUE;
    private static final int LEAST = Integer.MIN_VALUE;

    private static final Due due = new Due();

    public static void main(String[] args) {
        newObjectIsEmpty();
        newObjectHasVersionZeroAlone();
        signsAre33To126();
        eightSignsAtMost();
        padIsFreeAgain();
        wipeTellsHowManyThereWere();
        lineOfOneToEightSigns();
        twentyLinesAtMost();
        lineIsInAllVersions();
        changeOfLinesThatAreThere();
        changeWithoutSigns();
        changeInTheLastVersionAlone();
        fourVersionsAtMost();
        versionBeginsAsTheLastOne();
        signsOfALine();
        unknownAheadOfNone();
        namesNumbersMarks();
        asManySignsInEachLine();
        oneForOneThroughout();
        notWhollyThereIsNotAlike();
        rowsOfOneAndTwentyLines();
        alikeOutside();
        fiveHundredAndTwelveCalls();
        due.end();
    }

    private static void newObjectIsEmpty() {
        SameAgain x = new SameAgain();
        due.is("1 no signs", x.told(0), 0);
        due.is("1 no LINES", x.told(1), 0);
        due.is("1 nothing to wipe", x.wipe(), 0);
        due.is("1 no LINE without signs", x.line(), NO);
        due.is("1 no LINE to look at", x.sign(0, 0, -1), UNKNOWN);
        due.is("1 no LINE to change", x.change(0), UNKNOWN);
        due.is("1 no LINE is far", x.far(0, 0, 0), UNKNOWN);
        due.is("1 no LINE is near", x.near(0, 0, 0), UNKNOWN);
        due.is("1 image 0 was not kept", x.restore(0), STATE);
        due.is("1 image 1 was not kept", x.restore(1), STATE);
        for (int way = 0; way < 3; way++) {
            due.is("1 no ROW is alike", x.alike(0, way, 0, 0, 1), 0);
            due.is("1 LIKE is 0", x.like(0, way, 0, 1), 0);
            due.is("1 no GROUPS", x.groups(0, way, 1, -1), 0);
            due.is("1 no first GROUP", x.groups(0, way, 1, 0), NONE);
            due.is("1 no GROUP is WHOLE", x.whole(0, way, 0, 1), NO);
            due.is("1 TWO is 0", x.two(0, way), 0);
            due.is("1 none PARTED", x.parted(way, 0, 1, 1), NONE);
            for (int what = 0; what < 3; what++) {
                due.is("1 no LONGEST", x.longest(0, way, what), NONE);
                due.is("1 none PULLED OUT", x.pulled(0, way, 0, 1, what), -1005);
                due.is("1 no BEST", x.best(0, way, what), NONE);
            }
        }
        due.is("1 no place FORGOTTEN", x.forgotten(0, 0, 1, 1, 0), NONE);
        due.is("1 no NAME FORGOTTEN", x.forgotten(0, 0, 1, 1, 1), NONE);
        x.say('a');
        due.is("1 the first LINE", x.line(), 0);
    }

    private static void newObjectHasVersionZeroAlone() {
        SameAgain x = new SameAgain();
        due.is("1 one VERSION", x.told(2), 1);
        due.is("1 VERSION 0", x.two(0, 0), 0);
        for (int version : new int[] {-1, 1, 2, 3, 4, MOST, LEAST}) {
            due.is("1 VERSION " + version, x.two(version, 0), UNKNOWN);
        }
        due.is("1 none behind it", x.mends(0, 0, 1, 1), UNKNOWN);
        due.is("1 none behind it", x.mend(0, 0, 1, 1, 0, -1), UNKNOWN);
        due.is("1 the next one", x.version(), 1);
    }

    private static void signsAre33To126() {
        for (int sign = -200; sign <= 400; sign++) {
            SameAgain x = new SameAgain();
            boolean fits = sign >= 33 && sign <= 126;
            due.is("2 say " + sign, x.say(sign), fits ? 1 : OUTSIDE);
            due.is("2 signs behind " + sign, x.told(0), fits ? 1 : 0);
            due.is("2 a LINE of " + sign, x.line(), fits ? 0 : NO);
            due.is("2 it reads " + sign, x.sign(0, 0, 0), fits ? sign : UNKNOWN);
        }
        SameAgain x = new SameAgain();
        for (int sign : new int[] {LEAST, LEAST + 33, LEAST + 97, 33 + 65536, 97 + (1 << 24), MOST - 1, MOST}) {
            due.is("2 say " + sign, x.say(sign), OUTSIDE);
        }
        due.is("2 none came", x.told(0), 0);
    }

    private static void eightSignsAtMost() {
        SameAgain x = new SameAgain();
        for (int i = 1; i <= 8; i++) {
            due.is("2 sign " + i, x.say('a' + i), i);
            due.is("24 told " + i, x.told(0), i);
        }
        due.is("2 a ninth", x.say('!'), FULL);
        due.is("2 a tenth", x.say('!'), FULL);
        due.is("2 OUTSIDE goes ahead of FULL: 32", x.say(32), OUTSIDE);
        due.is("2 OUTSIDE goes ahead of FULL: 127", x.say(127), OUTSIDE);
        due.is("2 OUTSIDE goes ahead of FULL: the least", x.say(LEAST), OUTSIDE);
        due.is("2 OUTSIDE goes ahead of FULL: the greatest", x.say(MOST), OUTSIDE);
        due.is("2 eight still", x.told(0), 8);
        x.line();
        for (int i = 1; i <= 8; i++) {
            due.is("2 sign " + i + " is what was said", x.sign(0, 0, i - 1), 'a' + i);
        }
        due.is("2 eight in the LINE", x.sign(0, 0, -1), 8);
    }

    private static void padIsFreeAgain() {
        SameAgain x = new SameAgain();
        Due.say(x, "abcdefgh");
        x.line();
        due.is("4 it is empty behind a LINE", x.told(0), 0);
        due.is("2 the first sign behind a LINE", x.say('i'), 1);
        Due.say(x, "jklmnop");
        due.is("2 full", x.say('q'), FULL);
        x.change(0);
        due.is("5 it is empty behind a change", x.told(0), 0);
        due.is("2 the first sign behind a change", x.say('r'), 1);
        Due.say(x, "stuvwxy");
        due.is("2 full", x.say('z'), FULL);
        due.is("3 eight go", x.wipe(), 8);
        due.is("3 it is empty behind a wipe", x.told(0), 0);
        due.is("2 the first sign behind a wipe", x.say('z'), 1);
    }

    private static void wipeTellsHowManyThereWere() {
        for (int signs = 0; signs <= 9; signs++) {
            SameAgain x = Due.code("ab");
            Due.say(x, "123456789".substring(0, signs));
            due.is("3 wipe of " + signs, x.wipe(), Math.min(signs, 8));
            due.is("3 none are left", x.told(0), 0);
            due.is("3 wipe of none", x.wipe(), 0);
            due.is("3 no LINE of none", x.line(), NO);
            due.is("3 no change of none", x.change(0), NO);
            due.is("3 the LINE stays", x.sign(0, 0, -1), 2);
            due.is("3 LINES stay", x.told(1), 1);
            due.is("3 VERSIONS stay", x.told(2), 1);
        }
    }

    private static void lineOfOneToEightSigns() {
        SameAgain x = new SameAgain();
        due.is("4 of no signs", x.line(), NO);
        due.is("4 none came", x.told(1), 0);
        for (int signs = 1; signs <= 8; signs++) {
            Due.say(x, "abcdefgh".substring(0, signs));
            due.is("4 LINE of " + signs, x.line(), signs - 1);
            due.is("4 how many signs", x.sign(0, signs - 1, -1), signs);
            due.is("4 the last one", x.sign(0, signs - 1, signs - 1), 'a' + signs - 1);
            due.is("4 none behind it", x.sign(0, signs - 1, signs), NONE);
            due.is("4 no signs are left", x.line(), NO);
            due.is("4 how many LINES", x.told(1), signs);
        }
    }

    private static void twentyLinesAtMost() {
        SameAgain x = new SameAgain();
        for (int line = 0; line < 20; line++) {
            due.is("4 not there yet", x.sign(0, line, -1), UNKNOWN);
            x.say('A' + line);
            due.is("4 LINE " + line, x.line(), line);
        }
        due.is("24 twenty", x.told(1), 20);
        due.is("4 a LINE more, FULL goes ahead of NO", x.line(), FULL);
        Due.say(x, "zy");
        due.is("4 a LINE more", x.line(), FULL);
        due.is("4 and again", x.line(), FULL);
        due.is("4 twenty still", x.told(1), 20);
        due.is("4 its signs are still there", x.told(0), 2);
        due.is("4 no LINE 20", x.sign(0, 20, -1), UNKNOWN);
        for (int line = 0; line < 20; line++) {
            due.is("4 LINE " + line + " is as it was", x.sign(0, line, 0), 'A' + line);
        }
        due.is("5 the last LINE can be changed", x.change(19), 1);
        due.is("5 by the signs that no LINE took", x.sign(0, 19, 0), 'z');
        due.is("5 by both", x.sign(0, 19, 1), 'y');
        due.is("4 full still", x.line(), FULL);
    }

    private static void lineIsInAllVersions() {
        for (int versions = 1; versions <= 4; versions++) {
            SameAgain x = Due.code("a");
            for (int v = 1; v < versions; v++) {
                x.version();
                Due.change(x, 0, "b" + v);
            }
            Due.say(x, "new");
            due.is("4 behind " + versions + " VERSIONS", x.line(), 1);
            for (int v = 0; v < versions; v++) {
                due.is("4 whole in VERSION " + v, x.sign(v, 1, -1), 3);
                due.is("4 its last sign", x.sign(v, 1, 2), 'w');
            }
            due.is("4 what was changed stays so", x.sign(versions - 1, 0, -1), versions == 1 ? 1 : 2);
            due.is("4 and in VERSION 0 as it was", x.sign(0, 0, -1), 1);
            due.is("4 no VERSION more", x.sign(versions, 1, -1), UNKNOWN);
        }
    }

    private static void changeOfLinesThatAreThere() {
        for (int lines = 0; lines <= 20; lines++) {
            SameAgain x = Due.same("a", lines);
            for (int line : new int[] {-1, lines, lines + 1, 20, 21, MOST, LEAST}) {
                due.is("5 UNKNOWN goes ahead of NO: " + line, x.change(line), UNKNOWN);
            }
            x.say('b');
            for (int line : new int[] {-1, lines, lines + 1, 20, 21, MOST, LEAST}) {
                due.is("5 change " + line + " of " + lines, x.change(line), UNKNOWN);
            }
            due.is("5 the sign stays", x.told(0), 1);
            due.is("5 the LINES stay", x.told(1), lines);
            due.is("5 no LINE is another one", lines == 0 ? 0 : x.like(0, 0, 0, 1), (1 << lines) - 1);
            if (lines > 0) {
                due.is("5 the last LINE", x.change(lines - 1), 1);
                due.is("5 it is another one", x.sign(0, lines - 1, 0), 'b');
                x.say('c');
                due.is("5 the first LINE", x.change(0), 1);
                due.is("5 it is another one", x.sign(0, 0, 0), 'c');
            }
        }
    }

    private static void changeWithoutSigns() {
        SameAgain x = Due.code("ab");
        due.is("5 no signs", x.change(0), NO);
        due.is("5 the LINE is as it was", x.sign(0, 0, -1), 2);
        due.is("5 the first sign, too", x.sign(0, 0, 0), 'a');
        Due.say(x, "c");
        due.is("5 one sign", x.change(0), 1);
        due.is("5 a LINE of one", x.sign(0, 0, -1), 1);
        due.is("5 the old second sign is gone", x.sign(0, 0, 1), NONE);
        due.is("5 no signs are left", x.change(0), NO);
        Due.say(x, "12345678");
        due.is("5 eight signs", x.change(0), 1);
        due.is("5 a LINE of eight", x.sign(0, 0, -1), 8);
        due.is("5 its last sign", x.sign(0, 0, 7), '8');
    }

    private static void changeInTheLastVersionAlone() {
        for (int versions = 1; versions <= 4; versions++) {
            SameAgain x = Due.code("a", "bc");
            for (int v = 1; v < versions; v++) {
                x.version();
            }
            Due.change(x, 1, "(d)");
            for (int v = 0; v < versions; v++) {
                boolean last = v == versions - 1;
                due.is("5 of " + versions + ", VERSION " + v, x.sign(v, 1, -1), last ? 3 : 2);
                due.is("5 its first sign", x.sign(v, 1, 0), last ? '(' : 'b');
                due.is("5 the other LINE", x.sign(v, 0, 0), 'a');
            }
        }
    }

    private static void fourVersionsAtMost() {
        SameAgain x = Due.code("a");
        x.say('p');
        for (int v = 1; v < 4; v++) {
            due.is("6 not there yet", x.sign(v, 0, -1), UNKNOWN);
            due.is("6 VERSION " + v, x.version(), v);
            due.is("24 VERSIONS", x.told(2), v + 1);
            due.is("6 it is there", x.sign(v, 0, -1), 1);
        }
        due.is("6 a fifth", x.version(), FULL);
        due.is("6 and again", x.version(), FULL);
        due.is("6 four still", x.told(2), 4);
        due.is("6 no VERSION 4", x.sign(4, 0, -1), UNKNOWN);
        due.is("6 the PAD is as it was", x.told(0), 1);
        due.is("6 the last one can be changed", x.change(0), 1);
        due.is("6 it is VERSION 3", x.sign(3, 0, 0), 'p');
        due.is("6 not VERSION 2", x.sign(2, 0, 0), 'a');
        SameAgain empty = new SameAgain();
        for (int v = 1; v < 4; v++) {
            due.is("6 of no LINES", empty.version(), v);
        }
        due.is("6 of no LINES, a fifth", empty.version(), FULL);
        due.is("6 no LINES still", empty.told(1), 0);
    }

    private static void versionBeginsAsTheLastOne() {
        SameAgain x = Due.code("a", "z");
        for (int v = 1; v < 4; v++) {
            x.version();
            due.is("6 VERSION " + v + " begins as the last one", x.sign(v, 0, 0), 'a' + v - 1);
            due.is("6 of as many signs", x.sign(v, 0, -1), v);
            due.is("6 the LINE that never changed", x.sign(v, 1, 0), 'z');
            Due.change(x, 0, "bcdefghi".substring(v - 1, 2 * v));
        }
        for (int v = 0; v < 4; v++) {
            due.is("6 VERSION " + v + " in the end", x.sign(v, 0, 0), 'a' + v);
        }
    }

    private static void signsOfALine() {
        SameAgain x = Due.code("!", "12345678", "abc");
        int[] sizes = {1, 8, 3};
        for (int line = 0; line < 3; line++) {
            due.is("7 how many", x.sign(0, line, -1), sizes[line]);
            for (int i : new int[] {-2, -3, LEAST, sizes[line], sizes[line] + 1, 8, 9, MOST}) {
                due.is("7 LINE " + line + ", sign " + i, x.sign(0, line, i), NONE);
            }
        }
        due.is("7 the only one", x.sign(0, 0, 0), '!');
        due.is("7 the first of eight", x.sign(0, 1, 0), '1');
        due.is("7 the eighth", x.sign(0, 1, 7), '8');
        due.is("7 the last of three", x.sign(0, 2, 2), 'c');
    }

    private static void unknownAheadOfNone() {
        SameAgain x = Due.same("a", 20);
        x.version();
        for (int i : new int[] {LEAST, -2, -1, 0, 1, MOST}) {
            for (int version : new int[] {LEAST, -1, 2, 3, 4, MOST}) {
                due.is("7 VERSION " + version + ", sign " + i, x.sign(version, 19, i), UNKNOWN);
            }
            for (int line : new int[] {LEAST, -1, 20, 21, MOST}) {
                due.is("7 LINE " + line + ", sign " + i, x.sign(1, line, i), UNKNOWN);
            }
        }
        due.is("7 the last LINE of the last VERSION", x.sign(1, 19, 0), 'a');
    }

    /** Each two signs, so that each edge between NAMES, NUMBERS and MARKS is looked at. */
    private static void namesNumbersMarks() {
        for (int one = 33; one <= 126; one++) {
            for (int other = 33; other <= 126; other++) {
                SameAgain x = Due.code("" + (char) one, "" + (char) other);
                boolean same = one == other;
                boolean names = one >= 'a' && one <= 'z' && other >= 'a' && other <= 'z';
                boolean numbers = one >= '0' && one <= '9' && other >= '0' && other <= '9';
                String what = "8 " + (char) one + " and " + (char) other + " by WAY ";
                due.is(what + 0, x.alike(0, 0, 0, 1, 1), same ? 1 : 0);
                due.is(what + 1, x.alike(0, 1, 0, 1, 1), same || names ? 1 : 0);
                due.is(what + 2, x.alike(0, 2, 0, 1, 1), same || names || numbers ? 1 : 0);
                due.is("20 FAR: " + what, x.far(0, 0, 1), same ? 0 : names || numbers ? 1 : 3);
            }
        }
    }

    private static void asManySignsInEachLine() {
        for (int way = 0; way < 3; way++) {
            due.is("8 one and two", Due.code("a", "aa").alike(0, way, 0, 1, 1), 0);
            due.is("8 seven and eight", Due.code("aaaaaaa", "aaaaaaaa").alike(0, way, 0, 1, 1), 0);
            due.is("8 eight and seven", Due.code("aaaaaaaa", "aaaaaaa").alike(0, way, 0, 1, 1), 0);
            due.is("8 eight and eight", Due.code("aaaaaaaa", "aaaaaaaa").alike(0, way, 0, 1, 1), 1);
            due.is("8 as many in all, not in each LINE", Due.code("ab", "c", "a", "bc").alike(0, way, 0, 2, 2), 0);
            due.is("8 the first LINE as many", Due.code("a", "b", "a", "bc").alike(0, way, 0, 2, 2), 0);
            due.is("8 the eighth sign alone", Due.code("+++++++-", "+++++++=").alike(0, way, 0, 1, 1), 0);
        }
    }

    private static void oneForOneThroughout() {
        String[] all = {"abcdefgh", "ijklmnop", "qrstuvwx", "yz"};
        String[] turned = {"bcdefghi", "jklmnopq", "rstuvwxy", "za"};
        due.is("8 all names, turned by one", Due.code(Due.joined(all, turned)).alike(0, 1, 0, 4, 4), 1);
        String[] twice = {"bcdefghi", "jklmnopq", "rstuvwxy", "zb"};
        due.is("8 the last name beside two", Due.code(Due.joined(all, twice)).alike(0, 1, 0, 4, 4), 0);
        due.is("8 the last name beside two, turned round", Due.code(Due.joined(twice, all)).alike(0, 1, 0, 4, 4), 0);
        due.is("8 but for the last LINE", Due.code(Due.joined(all, twice)).alike(0, 1, 0, 4, 3), 1);
        for (int way = 1; way < 3; way++) {
            due.is("8 the same beside two in a later LINE", Due.code("a", "a", "b", "c").alike(0, way, 0, 2, 2), 0);
            due.is("8 two beside the same in a later LINE", Due.code("b", "c", "a", "a").alike(0, way, 0, 2, 2), 0);
            due.is("8 each LINE by itself", Due.code("a", "a", "b", "c").alike(0, way, 1, 3, 1), 1);
            due.is("8 ROWS that share a LINE", Due.code("a", "b", "c").alike(0, way, 0, 1, 2), 1);
        }
        due.is("8 numbers need not be one for one", Due.code("11", "23", "44", "44").alike(0, 2, 0, 2, 2), 1);
        due.is("8 numbers are the same by WAY 1", Due.code("a1", "b1").alike(0, 1, 0, 1, 1), 1);
    }

    private static void notWhollyThereIsNotAlike() {
        for (int lines = 0; lines <= 20; lines++) {
            SameAgain x = Due.same("a", lines);
            for (int start = Math.max(lines - 3, 0); start < 20 && start <= lines; start++) {
                for (int length = 1; length <= 4; length++) {
                    int want = start + length <= lines ? 1 : 0;
                    String what = "8 of " + lines + " LINES, " + start + " and " + length;
                    due.is(what, x.alike(0, 0, start, start, length), want);
                    due.is(what + ", the second ROW", x.alike(0, 1, 0, start, length), want);
                    due.is(what + ", the first ROW", x.alike(0, 2, start, 0, length), want);
                }
            }
        }
    }

    private static void rowsOfOneAndTwentyLines() {
        SameAgain x = Due.same("a", 20);
        due.is("8 twenty", x.alike(0, 0, 0, 0, 20), 1);
        due.is("8 nineteen", x.alike(0, 0, 0, 1, 19), 1);
        due.is("8 one too many", x.alike(0, 0, 0, 1, 20), 0);
        due.is("8 the last LINE", x.alike(0, 0, 19, 0, 1), 1);
        due.is("8 the last LINE and one more", x.alike(0, 0, 19, 0, 2), 0);
        due.is("8 all behind the end", x.alike(0, 0, 19, 19, 20), 0);
        SameAgain y = Due.same("a", 19);
        due.is("8 twenty of nineteen", y.alike(0, 0, 0, 0, 20), 0);
        due.is("8 nineteen of nineteen", y.alike(0, 0, 0, 0, 19), 1);
        due.is("8 start 19 of nineteen", y.alike(0, 0, 19, 19, 1), 0);
        due.is("8 start 18 of nineteen", y.alike(0, 0, 18, 18, 1), 1);
    }

    private static void alikeOutside() {
        SameAgain x = Due.same("a", 20);
        for (int way : new int[] {LEAST, -1, 3, MOST}) {
            due.is("8 WAY " + way, x.alike(0, way, 0, 1, 1), OUTSIDE);
        }
        for (int start : new int[] {LEAST, -1, 20, MOST}) {
            due.is("8 start " + start, x.alike(0, 0, start, 0, 1), OUTSIDE);
            due.is("8 the other start " + start, x.alike(0, 0, 0, start, 1), OUTSIDE);
        }
        for (int length : new int[] {LEAST, -1, 0, 21, MOST}) {
            due.is("8 length " + length, x.alike(0, 0, 0, 0, length), OUTSIDE);
        }
        for (int version : new int[] {LEAST, -1, 1, 4, MOST}) {
            due.is("8 VERSION " + version, x.alike(version, 3, -1, 20, 0), UNKNOWN);
        }
        due.is("8 OUTSIDE where no LINE is", new SameAgain().alike(0, 0, 20, 0, 1), OUTSIDE);
    }

    /** "An object is used for at most 512 calls": the last of them is answered as all others. */
    private static void fiveHundredAndTwelveCalls() {
        SameAgain x = Due.same("a", 20);
        int calls = 40;
        while (calls < 510) {
            x.two(0, 2);
            calls++;
        }
        due.is("the 511th call", x.say('b'), 1);
        due.is("the 512th call", x.change(19), 1);
    }
}

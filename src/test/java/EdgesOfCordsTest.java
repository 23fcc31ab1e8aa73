/** Each sentence of promises 1 to 10 that names an edge has a method of its own. */
public final class EdgesOfCordsTest {
    private static final int NONE = -1;
    private static final int RANGE = -2;
    private static final int FULL = -3;
    private static final int FAULT = 7;
    private static final int[] NO_RECORD = {-1, 4, Integer.MIN_VALUE, Integer.MAX_VALUE};

    private static void due(String call, long got, long want) {
        Due.due(call, got, want);
    }

    private static CordHouse oneCord() {
        CordHouse x = new CordHouse();
        x.cord(0, 0, 0, 200);
        return x;
    }

    // ---- promises 1 to 3

    private static void fourEmpty() {
        Due.sentence("1: Four empty RECORDS.");
        CordHouse x = new CordHouse();
        for (int r = 0; r < 4; r++) {
            due("no cord", x.count(r, 0), 0);
            due("no sum", x.count(r, 2), 0);
            due("its gap", x.count(r, 3), 15);
            due("no span", x.span(r, 0, 0), NONE);
        }
        due("no fifth", x.count(4, 0), NONE);
        due("nothing cured", x.cured(0), NONE);
        due("nothing found", x.grouping(0, 0), NONE);
    }

    private static void cordIsNumbered() {
        Due.sentence("2: A CORD more hangs on the main one in a GROUP: its number");
        CordHouse x = new CordHouse();
        due("the first", x.cord(0, 11, 0, 10), 0);
        due("the second", x.cord(0, 0, 23, 600), 1);
        due("the first of another record", x.cord(3, 0, 0, 100), 0);
        due("without knots", x.about(0, 1, 4), 0);
        due("whole", x.about(0, 1, 5), NONE);
        due("on no other", x.about(0, 1, 1), NONE);
    }

    private static void cordRange() {
        Due.sentence("2: RANGE");
        CordHouse x = new CordHouse();
        for (int r : NO_RECORD) {
            due("record " + r, x.cord(r, 0, 0, 100), RANGE);
        }
        for (int n : new int[] {-1, Integer.MIN_VALUE, Integer.MAX_VALUE}) {
            due("group " + n, x.cord(0, n, 0, 100), RANGE);
            due("colour " + n, x.cord(0, 0, n, 100), RANGE);
            due("length " + n, x.cord(0, 0, 0, n), RANGE);
        }
        due("group 12", x.cord(0, 12, 0, 100), RANGE);
        due("colour 24", x.cord(0, 0, 24, 100), RANGE);
        due("length 9", x.cord(0, 0, 0, 9), RANGE);
        due("length 601", x.cord(0, 0, 0, 601), RANGE);
        due("none came", x.count(0, 0), 0);
    }

    private static CordHouse sixty() {
        CordHouse x = new CordHouse();
        for (int c = 0; c < 60; c++) {
            x.cord(0, 0, 0, 100);
        }
        return x;
    }

    private static void cordFull() {
        Due.sentence("2: FULL");
        CordHouse x = sixty();
        due("the sixty-first", x.cord(0, 0, 0, 100), FULL);
        due("sixty", x.count(0, 0), 60);
        due("no cord 60", x.about(0, 60, 2), NONE);
        x.clear(0);
        due("room again", x.cord(0, 0, 0, 100), 0);
    }

    private static void hangIsNumbered() {
        Due.sentence("3: A CORD more hangs on another one: its number");
        CordHouse x = oneCord();
        due("the second", x.hang(0, 0, 23, 600), 1);
        due("the third", x.hang(0, 0, 0, 10), 2);
        due("on the first", x.about(0, 2, 1), 0);
        due("in no group", x.about(0, 2, 0), NONE);
        due("the next on the main one", x.cord(0, 0, 0, 100), 3);
    }

    private static void hangRange() {
        Due.sentence("3: RANGE");
        CordHouse x = oneCord();
        for (int r : NO_RECORD) {
            due("record " + r, x.hang(r, 0, 0, 100), RANGE);
        }
        for (int n : new int[] {-1, Integer.MIN_VALUE, Integer.MAX_VALUE}) {
            due("on " + n, x.hang(0, n, 0, 100), RANGE);
            due("colour " + n, x.hang(0, 0, n, 100), RANGE);
            due("length " + n, x.hang(0, 0, 0, n), RANGE);
        }
        due("on 1", x.hang(0, 1, 0, 100), RANGE);
        due("in an empty record", x.hang(1, 0, 0, 100), RANGE);
        due("colour 24", x.hang(0, 0, 24, 100), RANGE);
        due("length 9", x.hang(0, 0, 0, 9), RANGE);
        due("length 601", x.hang(0, 0, 0, 601), RANGE);
        due("none came", x.count(0, 0), 1);
    }

    private static void hangFullOfSixty() {
        Due.sentence("3: FULL: 60 there are");
        CordHouse x = sixty();
        due("the sixty-first", x.hang(0, 59, 0, 100), FULL);
        due("sixty", x.count(0, 0), 60);
        CordHouse y = new CordHouse();
        for (int c = 0; c < 59; c++) {
            y.cord(0, 0, 0, 100);
        }
        due("the sixtieth", y.hang(0, 58, 0, 100), 59);
    }

    private static void hangFullBelow() {
        Due.sentence("3: or it would be below more than three");
        CordHouse x = oneCord();
        due("below one", x.hang(0, 0, 0, 100), 1);
        due("below two", x.hang(0, 1, 0, 100), 2);
        due("below three", x.hang(0, 2, 0, 100), 3);
        due("below four", x.hang(0, 3, 0, 100), FULL);
        due("none came", x.count(0, 0), 4);
    }

    // ---- promises 4 to 6

    private static void simpleTurns() {
        Due.sentence("4: sort 0 SIMPLE (turns 0)");
        CordHouse x = oneCord();
        for (int turns : new int[] {-1, 1, 2, 9}) {
            due("turns " + turns, x.knot(0, 0, 100, 0, turns), RANGE);
        }
        due("turns 0", x.knot(0, 0, 100, 0, 0), 1);
        due("its sort", x.knotAt(0, 0, 0, 1), 0);
    }

    private static void longTurns() {
        Due.sentence("4: 1 LONG");
        CordHouse x = oneCord();
        for (int turns : new int[] {-1, 0, 1, 10, 18, Integer.MIN_VALUE, Integer.MAX_VALUE}) {
            due("turns " + turns, x.knot(0, 0, 100, 1, turns), RANGE);
        }
        for (int turns = 2; turns <= 9; turns++) {
            due("turns " + turns, x.knot(0, 0, turns * 10, 1, turns), turns - 1);
            due("so many", x.knotAt(0, 0, turns - 2, 2), turns);
        }
        due("its sort", x.knotAt(0, 0, 7, 1), 1);
    }

    private static void eightTurns() {
        Due.sentence("4: 2 EIGHT (turns 0)");
        CordHouse x = oneCord();
        for (int turns : new int[] {-1, 1, 2, 8}) {
            due("turns " + turns, x.knot(0, 0, 100, 2, turns), RANGE);
        }
        due("turns 0", x.knot(0, 0, 100, 2, 0), 1);
        due("its sort", x.knotAt(0, 0, 0, 1), 2);
    }

    private static void knotsThereAre() {
        Due.sentence("4: how many the CORD has");
        CordHouse x = oneCord();
        x.cord(0, 0, 0, 200);
        x.knot(0, 1, 100, 0, 0);
        due("one", x.knot(0, 0, 100, 0, 0), 1);
        due("two, ahead of it", x.knot(0, 0, 1, 0, 0), 2);
        due("three, behind it", x.knot(0, 0, 200, 0, 0), 3);
        due("four, between", x.knot(0, 0, 150, 0, 0), 4);
        int[] heights = {1, 100, 150, 200};
        for (int k = 0; k < 4; k++) {
            due("knot " + k, x.knotAt(0, 0, k, 0), heights[k]);
        }
    }

    private static void knotNoRecordOrCord() {
        Due.sentence("4: RANGE: no such RECORD, CORD");
        CordHouse x = oneCord();
        for (int r : NO_RECORD) {
            due("record " + r, x.knot(r, 0, 100, 0, 0), RANGE);
        }
        for (int c : new int[] {-1, 1, 60, Integer.MIN_VALUE, Integer.MAX_VALUE}) {
            due("cord " + c, x.knot(0, c, 100, 0, 0), RANGE);
        }
        due("an empty record", x.knot(1, 0, 100, 0, 0), RANGE);
        due("none came", x.count(0, 1), 0);
    }

    private static void knotNoSort() {
        Due.sentence("4: RANGE: no such [..] sort, turns");
        CordHouse x = oneCord();
        for (int sort : new int[] {-1, 3, 4, Integer.MIN_VALUE, Integer.MAX_VALUE}) {
            due("sort " + sort, x.knot(0, 0, 100, sort, 0), RANGE);
            due("sort " + sort + " with turns", x.knot(0, 0, 100, sort, 2), RANGE);
        }
        due("none came", x.count(0, 1), 0);
    }

    private static void knotNoHeight() {
        Due.sentence("4: RANGE: no such [..] height");
        CordHouse x = oneCord();
        for (int height : new int[] {0, -1, 201, 600, Integer.MIN_VALUE, Integer.MAX_VALUE}) {
            due("height " + height, x.knot(0, 0, height, 0, 0), RANGE);
        }
        due("none came", x.count(0, 1), 0);
        due("height 1", x.knot(0, 0, 1, 0, 0), 1);
        due("height 200", x.knot(0, 0, 200, 0, 0), 2);
    }

    private static void knotOneIsThere() {
        Due.sentence("4: RANGE: [..] one is there");
        CordHouse x = oneCord();
        x.knot(0, 0, 100, 1, 5);
        due("the same", x.knot(0, 0, 100, 1, 5), RANGE);
        due("another", x.knot(0, 0, 100, 0, 0), RANGE);
        due("it stays", x.knotAt(0, 0, 0, 2), 5);
        due("one", x.about(0, 0, 4), 1);
    }

    private static void knotBehindTheTear() {
        Due.sentence("4: RANGE: [..] or it is not ahead of the tear");
        CordHouse x = oneCord();
        x.tear(0, 0, 100);
        due("at it", x.knot(0, 0, 100, 0, 0), RANGE);
        due("behind it", x.knot(0, 0, 101, 0, 0), RANGE);
        due("ahead of it", x.knot(0, 0, 99, 0, 0), 1);
        x.tear(0, 0, 50);
        due("ahead of what it was", x.knot(0, 0, 99, 0, 0), RANGE);
        due("at what it is", x.knot(0, 0, 50, 0, 0), RANGE);
        due("ahead of what it is", x.knot(0, 0, 49, 0, 0), 1);
    }

    private static void knotFull() {
        Due.sentence("4: FULL");
        CordHouse x = oneCord();
        for (int k = 1; k <= 30; k++) {
            due("knot " + k, x.knot(0, 0, 5 * k, 0, 0), k);
        }
        due("one more, ahead", x.knot(0, 0, 1, 0, 0), FULL);
        due("one more, behind", x.knot(0, 0, 200, 2, 0), FULL);
        due("the first stays", x.knotAt(0, 0, 0, 0), 5);
        due("the last stays", x.knotAt(0, 0, 29, 0), 150);
        due("none behind it", x.knotAt(0, 0, 30, 0), NONE);
        x.tear(0, 0, 150);
        due("room by a tear", x.knot(0, 0, 149, 0, 0), 30);
    }

    private static void untieLeft() {
        Due.sentence("5: The KNOT at a height is untied: how many are left");
        CordHouse x = oneCord();
        for (int k = 1; k <= 30; k++) {
            x.knot(0, 0, 5 * k, 0, 0);
        }
        due("the last of thirty", x.untie(0, 0, 150), 29);
        due("the first", x.untie(0, 0, 5), 28);
        due("one between", x.untie(0, 0, 75), 27);
        due("now the first", x.knotAt(0, 0, 0, 0), 10);
        due("now the last", x.knotAt(0, 0, 26, 0), 145);
        CordHouse y = oneCord();
        y.knot(0, 0, 200, 1, 3);
        due("the only one", y.untie(0, 0, 200), 0);
        CordHouse z = oneCord();
        z.cord(0, 0, 0, 200);
        z.knot(0, 1, 7, 1, 7);
        z.knot(0, 1, 8, 1, 8);
        for (int k = 1; k <= 30; k++) {
            z.knot(0, 0, 5 * k, 0, 0);
        }
        due("the last but one of thirty", z.untie(0, 0, 145), 29);
        due("the first of the next cord stays", z.knotAt(0, 1, 0, 2), 7);
        due("its second, too", z.knotAt(0, 1, 1, 2), 8);
        due("none came to it", z.about(0, 1, 4), 2);
    }

    private static void untieNone() {
        Due.sentence("5: NONE: none is there");
        CordHouse x = oneCord();
        due("of none", x.untie(0, 0, 100), NONE);
        x.knot(0, 0, 100, 0, 0);
        for (int height : new int[] {99, 101, 0, 1, 200, 201, Integer.MIN_VALUE, Integer.MAX_VALUE}) {
            due("at " + height, x.untie(0, 0, height), NONE);
        }
        due("it is there", x.untie(0, 0, 100), 0);
        due("it was there", x.untie(0, 0, 100), NONE);
        x.knot(0, 0, 100, 0, 0);
        x.tear(0, 0, 100);
        due("it is torn off", x.untie(0, 0, 100), NONE);
    }

    private static void untieNoCord() {
        Due.sentence("5: NONE: [..] or no such CORD");
        CordHouse x = oneCord();
        x.knot(0, 0, 100, 0, 0);
        for (int r : NO_RECORD) {
            due("record " + r, x.untie(r, 0, 100), NONE);
        }
        for (int c : new int[] {-1, 1, Integer.MIN_VALUE, Integer.MAX_VALUE}) {
            due("cord " + c, x.untie(0, c, 100), NONE);
        }
        due("an empty record", x.untie(1, 0, 100), NONE);
    }

    private static void tearHeights() {
        Due.sentence("6: A CORD is TORN at a height 1 .. its length");
        CordHouse x = oneCord();
        for (int height : new int[] {0, -1, 201, Integer.MIN_VALUE, Integer.MAX_VALUE}) {
            due("at " + height, x.tear(0, 0, height), RANGE);
        }
        due("whole", x.about(0, 0, 5), NONE);
        due("at its length", x.tear(0, 0, 200), 0);
        due("torn there", x.about(0, 0, 5), 200);
        due("at 1", x.tear(0, 0, 1), 0);
        due("torn there", x.about(0, 0, 5), 1);
    }

    private static void tearLesser() {
        Due.sentence("6: (a lesser one than before, if it was TORN)");
        CordHouse x = oneCord();
        x.tear(0, 0, 100);
        due("the same", x.tear(0, 0, 100), RANGE);
        due("one more", x.tear(0, 0, 101), RANGE);
        due("as it was", x.about(0, 0, 5), 100);
        due("one less", x.tear(0, 0, 99), 0);
        due("less", x.about(0, 0, 5), 99);
        x.tear(0, 0, 1);
        due("there is no less", x.tear(0, 0, 1), RANGE);
        due("nor this", x.tear(0, 0, 0), RANGE);
    }

    private static void tearLeft() {
        Due.sentence("6: how many KNOTS are left");
        CordHouse x = oneCord();
        for (int h : new int[] {1, 50, 100, 200}) {
            x.knot(0, 0, h, 0, 0);
        }
        due("at the last", x.tear(0, 0, 200), 3);
        due("one behind a knot", x.tear(0, 0, 101), 3);
        due("at a knot", x.tear(0, 0, 100), 2);
        due("ahead of a knot", x.tear(0, 0, 49), 1);
        due("at all", x.tear(0, 0, 1), 0);
        due("how many are torn", x.count(0, 4), 1);
    }

    private static void tearRange() {
        Due.sentence("6: RANGE");
        CordHouse x = oneCord();
        for (int r : NO_RECORD) {
            due("record " + r, x.tear(r, 0, 100), RANGE);
        }
        for (int c : new int[] {-1, 1, Integer.MIN_VALUE, Integer.MAX_VALUE}) {
            due("cord " + c, x.tear(0, c, 100), RANGE);
        }
        due("an empty record", x.tear(1, 0, 100), RANGE);
        due("none is torn", x.count(0, 4), 0);
    }

    // ---- promise 7

    /** CORD 0 keeps six LEVELS, at 60, 120, .. 360; CORD 1 has no KNOTS. */
    private static CordHouse sixLevels() {
        CordHouse x = new CordHouse();
        Writing.cord(x, 0, 0, 0, 111111);
        x.cord(0, 0, 0, 420);
        return x;
    }

    private static void knotsAre(String what, CordHouse x, int c, int... heights) {
        due(what + ", how many", x.about(0, c, 4), heights.length);
        for (int k = 0; k < heights.length; k++) {
            due(what + ", knot " + k, x.knotAt(0, c, k, 0), heights[k]);
        }
    }

    private static void tieJustThese() {
        Due.sentence("7: The CORD has just the KNOTS of a number 0 .. 999999");
        CordHouse x = sixLevels();
        due("a knot between", x.knot(0, 1, 61, 0, 0), 1);
        due("one at the end", x.knot(0, 1, 361, 1, 4), 2);
        due("number -1", x.tie(0, 1, -1), RANGE);
        due("number 1000000", x.tie(0, 1, 1000000), RANGE);
        knotsAre("as they were", x, 1, 61, 361);
        due("the greatest of one cluster", x.tie(0, 1, 900000), 900000);
        knotsAre("nine", x, 1, 48, 51, 54, 57, 60, 63, 66, 69, 72);
        due("the least", x.tie(0, 1, 0), 0);
        knotsAre("none", x, 1);
    }

    private static void tieAtLevelsAsTheyAre() {
        Due.sentence("7: at the RECORD's LEVELS as they are: in each LEVEL with a digit above 0 one CLUSTER");
        CordHouse x = new CordHouse();
        Writing.cord(x, 0, 0, 0, 111);
        x.tie(0, 0, 999);
        due("at the levels that its own knots made", x.number(0, 0), 999);
        due("three clusters", x.about(0, 0, 6), 3);
        due("nineteen knots", x.about(0, 0, 4), 19);
        x.cord(0, 0, 0, 420);
        due("the least digits", x.tie(0, 1, 101), 101);
        knotsAre("no cluster for the 0", x, 1, 240, 360);
        due("two clusters", x.about(0, 1, 6), 2);
        due("the greatest digits", x.tie(0, 1, 909), 909);
        due("two clusters", x.about(0, 1, 6), 2);
        due("none", x.tie(0, 1, 0), 0);
        due("no cluster", x.about(0, 1, 6), 0);
    }

    private static void tieSimple() {
        Due.sentence("7: of SIMPLE KNOTS at heights 3 from one to the next, the first one at the LEVEL's first PLACE"
            + " less half (cut) of what is from the first to the last");
        CordHouse x = sixLevels();
        x.tie(0, 1, 10);
        knotsAre("1", x, 1, 300);
        x.tie(0, 1, 20);
        knotsAre("2, half of 3 cut", x, 1, 299, 302);
        x.tie(0, 1, 30);
        knotsAre("3", x, 1, 297, 300, 303);
        x.tie(0, 1, 40);
        knotsAre("4, half of 9 cut", x, 1, 296, 299, 302, 305);
        x.tie(0, 1, 90);
        knotsAre("9", x, 1, 288, 291, 294, 297, 300, 303, 306, 309, 312);
        due("simple", x.knotAt(0, 1, 8, 1), 0);
        due("without turns", x.knotAt(0, 1, 8, 2), 0);
        x.cord(0, 0, 0, 420);
        x.knot(0, 2, 292, 0, 0);
        x.knot(0, 2, 310, 2, 0);
        x.tie(0, 2, 10);
        x.untie(0, 2, 300);
        x.knot(0, 2, 291, 0, 0);
        due("now the level's first place", x.level(0, 4, 0), 291);
        x.tie(0, 1, 10);
        knotsAre("at the first place, not the last", x, 1, 291);
    }

    private static void tieUnits() {
        Due.sentence("7: units: EIGHT for 1, LONG, at the LEVEL's first PLACE");
        CordHouse x = sixLevels();
        x.cord(0, 0, 0, 420);
        x.knot(0, 2, 350, 1, 2);
        x.knot(0, 0, 370, 1, 2);
        x.untie(0, 0, 370);
        due("first place", x.level(0, 5, 0), 350);
        due("last place", x.level(0, 5, 1), 360);
        for (int n = 1; n <= 9; n++) {
            due("units " + n, x.tie(0, 1, n), n);
            knotsAre("units " + n, x, 1, 350);
            due("sort of " + n, x.knotAt(0, 1, 0, 1), n == 1 ? 2 : 1);
            due("turns of " + n, x.knotAt(0, 1, 0, 2), n == 1 ? 0 : n);
        }
    }

    private static void tieRange() {
        Due.sentence("7: RANGE: no such CORD, number");
        CordHouse x = sixLevels();
        for (int r : NO_RECORD) {
            due("record " + r, x.tie(r, 1, 5), RANGE);
        }
        for (int c : new int[] {-1, 2, Integer.MIN_VALUE, Integer.MAX_VALUE}) {
            due("cord " + c, x.tie(0, c, 5), RANGE);
        }
        for (int n : new int[] {-1, 1000000, Integer.MIN_VALUE, Integer.MAX_VALUE}) {
            due("number " + n, x.tie(0, 1, n), RANGE);
        }
        due("an empty record", x.tie(1, 0, 5), RANGE);
        x.cord(1, 0, 0, 100);
        due("a number that can't be, without levels", x.tie(1, 0, 1000000), RANGE);
    }

    private static void tieNoLevels() {
        Due.sentence("7: NONE: no LEVELS");
        CordHouse x = oneCord();
        due("no cluster", x.tie(0, 0, 0), NONE);
        due("no cluster, a number", x.tie(0, 0, 5), NONE);
        for (int h = 20; h <= 120; h += 20) {
            x.knot(0, 0, h, 0, 0);
        }
        due("too many digits", x.tie(0, 0, 0), NONE);
        due("the knots stay", x.about(0, 0, 4), 6);
        x.untie(0, 0, 120);
        due("levels", x.tie(0, 0, 0), 0);
    }

    private static void tieDigitWithoutLevel() {
        Due.sentence("7: NONE: [..] a digit without one");
        CordHouse x = new CordHouse();
        Writing.cord(x, 0, 0, 0, 110);
        x.cord(0, 0, 0, 420);
        due("units", x.tie(0, 1, 111), NONE);
        due("units alone", x.tie(0, 1, 1), NONE);
        due("thousands", x.tie(0, 1, 1110), NONE);
        due("the greatest", x.tie(0, 1, 100000), NONE);
        due("none of them", x.tie(0, 1, 990), 990);
        Writing.cord(x, 0, 0, 0, 1);
        due("units now", x.tie(0, 1, 111), 111);
        due("thousands still", x.tie(0, 1, 1111), NONE);
    }

    private static void tieTorn() {
        Due.sentence("7: NONE: [..] it is TORN");
        CordHouse x = sixLevels();
        x.tear(0, 1, 420);
        due("a number ahead of the tear", x.tie(0, 1, 100000), NONE);
        due("nothing", x.tie(0, 1, 0), NONE);
        x.cord(0, 0, 0, 420);
        due("another one can", x.tie(0, 2, 100000), 100000);
    }

    private static void tieTooManyKnots() {
        Due.sentence("7: NONE: [..] there would be more than 30 KNOTS");
        CordHouse x = sixLevels();
        due("thirty", x.tie(0, 1, 999300), 999300);
        due("so many", x.about(0, 1, 4), 30);
        due("thirty-one, the last a long one", x.tie(0, 1, 999309), NONE);
        due("thirty-one, simple", x.tie(0, 1, 999310), NONE);
        due("the most", x.tie(0, 1, 999999), NONE);
        due("thirty, the last a long one", x.tie(0, 1, 999209), 999209);
        due("so many", x.about(0, 1, 4), 30);
    }

    private static void tieBelowOne() {
        Due.sentence("7: NONE: [..] a height would be below 1");
        CordHouse x = new CordHouse();
        x.cord(0, 0, 0, 200);
        x.knot(0, 0, 4, 0, 0);
        x.cord(0, 0, 0, 200);
        due("at 1", x.tie(0, 1, 30), 30);
        knotsAre("at 1", x, 1, 1, 4, 7);
        due("at 0", x.tie(0, 1, 40), NONE);
        due("below 0", x.tie(0, 1, 90), NONE);
        knotsAre("as it was", x, 1, 1, 4, 7);
    }

    private static void tieAboveLength() {
        Due.sentence("7: NONE: [..] or above its length");
        CordHouse x = new CordHouse();
        x.cord(0, 0, 0, 200);
        x.knot(0, 0, 100, 0, 0);
        x.knot(0, 0, 160, 1, 2);
        x.cord(0, 0, 0, 103);
        due("a simple one at its length", x.tie(0, 1, 30), 30);
        knotsAre("at its length", x, 1, 97, 100, 103);
        due("a simple one above", x.tie(0, 1, 40), NONE);
        due("units above", x.tie(0, 1, 2), NONE);
        x.cord(0, 0, 0, 160);
        due("units at its length", x.tie(0, 2, 9), 9);
        x.cord(0, 0, 0, 159);
        due("units one above", x.tie(0, 3, 9), NONE);
    }

    /** LEVELS at 100 and as much farther, kept by two CORDS; CORD 2 has no KNOTS. */
    private static CordHouse twoLevels(int farther) {
        CordHouse x = new CordHouse();
        x.gap(0, 1);
        for (int c = 0; c < 3; c++) {
            x.cord(0, 0, 0, 200);
        }
        x.knot(0, 0, 100, 0, 0);
        x.knot(0, 1, 100 + farther, 0, 0);
        return x;
    }

    private static void tieTwoAtOne() {
        Due.sentence("7: NONE: [..] two at one");
        CordHouse x = twoLevels(12);
        due("97, 100, 103 and 109, 112, 115", x.tie(0, 2, 330), 330);
        due("94 .. 106 and 106 .. 118", x.tie(0, 2, 550), NONE);
        due("as it was", x.number(0, 2), 330);
        CordHouse y = new CordHouse();
        y.gap(0, 1);
        for (int c = 0; c < 3; c++) {
            y.cord(0, 0, 0, 200);
        }
        y.knot(0, 0, 100, 0, 0);
        y.knot(0, 1, 103, 1, 2);
        due("a long one at the last of three", y.tie(0, 2, 32), NONE);
        due("behind the last of two", y.tie(0, 2, 22), 22);
    }

    private static void tieNotAsThatNumber() {
        Due.sentence("7: NONE: [..] or it would not read as that number");
        CordHouse x = twoLevels(11);
        due("97, 100, 103 and 108, 111, 114", x.tie(0, 2, 330), 330);
        due("103 and 107 would be one cluster", x.tie(0, 2, 340), NONE);
        due("as it was", x.number(0, 2), 330);
        CordHouse y = new CordHouse();
        Writing.cord(y, 0, 0, 0, 111);
        due("hundreds that would be tens", y.tie(0, 0, 500), NONE);
        due("as it was", y.number(0, 0), 111);
        due("tens stay tens", y.tie(0, 0, 50), 50);
        due("one level is left", y.levels(0), 1);
    }

    private static void tieAnothersNumber() {
        Due.sentence("7: NONE: [..] or another CORD's number [..] would be another");
        CordHouse x = new CordHouse();
        Writing.cord(x, 0, 0, 0, 23);
        Writing.cord(x, 0, 0, 0, 100);
        due("100 would be 10", x.tie(0, 0, 3), NONE);
        due("without units 100 stays", x.tie(0, 0, 20), 20);
        due("for tens are the last then", x.number(0, 1), 100);
        CordHouse y = new CordHouse();
        Writing.cord(y, 0, 0, 0, 20);
        Writing.cord(y, 0, 0, 0, 100);
        y.tear(0, 1, 400);
        due("a torn one's number would be another, too", y.tie(0, 0, 0), NONE);
    }

    private static void tieAnothersFault() {
        Due.sentence("7: NONE: [..] or another CORD's [..] FAULT would be another");
        CordHouse x = new CordHouse();
        x.cord(0, 0, 0, 200);
        x.cord(0, 0, 0, 200);
        x.knot(0, 0, 110, 0, 0);
        x.knot(0, 1, 100, 0, 0);
        x.knot(0, 1, 120, 0, 0);
        due("a fault", x.about(0, 1, FAULT), 3);
        due("there would be none", x.tie(0, 0, 0), NONE);
        due("nor would there be one by knots elsewhere", x.tie(0, 0, 20), NONE);
        due("it stays", x.about(0, 1, FAULT), 3);
        x.cord(0, 0, 0, 200);
        x.knot(0, 2, 110, 0, 0);
        due("another one keeps the fault", x.tie(0, 0, 20), 20);
        CordHouse y = oneCord();
        y.knot(0, 0, 100, 0, 0);
        y.cord(0, 0, 0, 200);
        y.knot(0, 1, 100, 1, 5);
        due("a simple one in units", y.about(0, 0, FAULT), 4);
        due("it would be in tens", y.tie(0, 1, 0), NONE);
        due("it stays in units", y.tie(0, 1, 1), 1);
    }

    private static void tieMendsItself() {
        Due.sentence("7: Its number then.");
        CordHouse x = sixLevels();
        x.knot(0, 1, 60, 1, 5);
        due("a fault of its own", x.about(0, 1, FAULT), 4);
        due("is gone", x.tie(0, 1, 7), 7);
        due("reads so", x.number(0, 1), 7);
        x.clear(0);
        Writing.cord(x, 0, 0, 0, 20);
        due("nothing in all the record", x.tie(0, 0, 0), 0);
        due("no levels then", x.levels(0), NONE);
    }

    private static void changesNothing(String what, CordHouse x, int c, int number) {
        x.settle(0);
        String before = Look.at(x);
        due(what, x.tie(0, c, number), NONE);
        Due.due(what + ", all as it was", Look.at(x), before);
    }

    private static void tieChangesNothing() {
        Due.sentence("7: (nothing changes)");
        changesNothing("no levels", oneCord(), 0, 0);
        CordHouse torn = sixLevels();
        torn.tear(0, 1, 400);
        changesNothing("torn", torn, 1, 5);
        changesNothing("more than 30", sixLevels(), 1, 999999);
        changesNothing("a digit without a level", twoLevels(40), 0, 1000);
        changesNothing("two at one", twoLevels(12), 0, 550);
        changesNothing("not read so", twoLevels(11), 0, 340);
        changesNothing("another one's number", twoLevels(40), 1, 0);
        CordHouse faulty = twoLevels(3);
        faulty.gap(0, 20);
        faulty.knot(0, 2, 85, 0, 0);
        faulty.knot(0, 2, 120, 0, 0);
        due("a fault", faulty.about(0, 2, FAULT), 3);
        faulty.tie(0, 1, 0);
        changesNothing("another one's fault", faulty, 0, 0);
    }

    // ---- promises 8 to 10

    private static void gapWas() {
        Due.sentence("8: The GAP of a RECORD: what it was");
        CordHouse x = new CordHouse();
        due("15 at first", x.gap(0, 100), 15);
        due("then 100", x.gap(0, 1), 100);
        due("then 1", x.gap(0, 1), 1);
        due("still 1", x.count(0, 3), 1);
        due("another record's", x.gap(3, 16), 15);
    }

    private static void gapRange() {
        Due.sentence("8: RANGE");
        CordHouse x = new CordHouse();
        for (int n : new int[] {0, -1, 101, Integer.MIN_VALUE, Integer.MAX_VALUE}) {
            due("gap " + n, x.gap(0, n), RANGE);
        }
        for (int r : NO_RECORD) {
            due("record " + r, x.gap(r, 15), RANGE);
        }
        due("as it was", x.count(0, 3), 15);
    }

    private static void clearEmpties() {
        Due.sentence("9: A RECORD is empty, its GAP 15");
        CordHouse x = new CordHouse();
        Writing.cord(x, 0, 3, 4, 12);
        x.hang(0, 0, 0, 100);
        x.tear(0, 1, 50);
        Writing.cord(x, 0, 5, 4, 12);
        Writing.sum(x, 0, 0, 1, 2);
        x.gap(0, 77);
        x.settle(0);
        x.clear(0);
        for (int what = 0; what <= 6; what++) {
            due("count " + what, x.count(0, what), what == 3 ? 15 : 0);
        }
        due("no levels", x.levels(0), NONE);
        due("no sum", x.sumAt(0, 0, 0), NONE);
        due("no part can come", x.part(0, 0), RANGE);
        due("no span", x.span(0, 0, 0), NONE);
        due("from 0 again", x.cord(0, 0, 0, 100), 0);
        due("without knots", x.about(0, 0, 4), 0);
        due("whole", x.cord(0, 0, 0, 100) == 1 ? x.about(0, 1, 5) : 0, NONE);
        due("a sum without parts", x.sum(0, 0) == 0 ? x.sumAt(0, 0, 1) : NONE, 0);
    }

    private static void clearHad() {
        Due.sentence("9: how many CORDS it had");
        CordHouse x = sixty();
        due("none", x.clear(1), 0);
        due("sixty", x.clear(0), 60);
        due("none any more", x.clear(0), 0);
    }

    private static void clearRange() {
        Due.sentence("9: RANGE");
        CordHouse x = oneCord();
        for (int r : NO_RECORD) {
            due("record " + r, x.clear(r), RANGE);
        }
        due("as it was", x.count(0, 0), 1);
    }

    private static void copyIsAlike() {
        Due.sentence("10: RECORD to is what r is (SUMS, GAP, too)");
        CordHouse x = new CordHouse();
        Writing.cord(x, 0, 3, 4, 12);
        x.hang(0, 0, 7, 100);
        x.tear(0, 1, 50);
        Writing.sum(x, 0, 0, 1);
        x.gap(0, 17);
        Writing.cord(x, 2, 1, 1, 321);
        x.cord(2, 1, 1, 100);
        x.cord(2, 1, 1, 100);
        x.sum(2, 0);
        x.sum(2, 1);
        x.copy(0, 2);
        for (int what = 0; what <= 6; what++) {
            due("count " + what, x.count(2, what), x.count(0, what));
        }
        for (int c = 0; c < 3; c++) {
            for (int what = 0; what <= 8; what++) {
                due("about " + c + " " + what, x.about(2, c, what), x.about(0, c, what));
            }
        }
        due("a knot", x.knotAt(2, 0, 1, 2), 2);
        due("a part", x.sumAt(2, 0, 10), 1);
        x.untie(2, 0, 360);
        x.drop(2);
        due("r is as it was", x.number(0, 0), 12);
        due("its sums, too", x.count(0, 2), 1);
    }

    private static void copyCords() {
        Due.sentence("10: how many CORDS");
        CordHouse x = sixty();
        due("sixty", x.copy(0, 3), 60);
        due("so many", x.count(3, 0), 60);
        due("to itself", x.copy(0, 0), 60);
        due("so many still", x.count(0, 0), 60);
        due("none", x.copy(1, 0), 0);
        due("none any more", x.count(0, 0), 0);
    }

    private static void copyRange() {
        Due.sentence("10: RANGE");
        CordHouse x = oneCord();
        for (int r : NO_RECORD) {
            due("of " + r, x.copy(r, 0), RANGE);
            due("to " + r, x.copy(0, r), RANGE);
            due("both " + r, x.copy(r, r), RANGE);
        }
        due("as it was", x.count(0, 0), 1);
    }

    private static void promises1To3() {
        fourEmpty();
        cordIsNumbered();
        cordRange();
        cordFull();
        hangIsNumbered();
        hangRange();
        hangFullOfSixty();
        hangFullBelow();
    }

    private static void promises4To6() {
        simpleTurns();
        longTurns();
        eightTurns();
        knotsThereAre();
        knotNoRecordOrCord();
        knotNoSort();
        knotNoHeight();
        knotOneIsThere();
        knotBehindTheTear();
        knotFull();
        untieLeft();
        untieNone();
        untieNoCord();
        tearHeights();
        tearLesser();
        tearLeft();
        tearRange();
    }

    private static void promise7() {
        tieJustThese();
        tieAtLevelsAsTheyAre();
        tieSimple();
        tieUnits();
        tieRange();
        tieNoLevels();
        tieDigitWithoutLevel();
        tieTorn();
        tieTooManyKnots();
        tieBelowOne();
        tieAboveLength();
        tieTwoAtOne();
        tieNotAsThatNumber();
        tieAnothersNumber();
        tieAnothersFault();
        tieMendsItself();
        tieChangesNothing();
    }

    private static void promises8To10() {
        gapWas();
        gapRange();
        clearEmpties();
        clearHad();
        clearRange();
        copyIsAlike();
        copyCords();
        copyRange();
    }

    public static void main(String[] args) {
        promises1To3();
        promises4To6();
        promise7();
        promises8To10();
        Due.end();
    }
}

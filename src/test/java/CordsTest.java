/** Promises 1 to 10: a new object, and what changes CORDS. */
public final class CordsTest {
    private static final int NONE = -1;
    private static final int RANGE = -2;
    private static final int FULL = -3;
    private static final int[] NO_RECORD = {-1, 4, Integer.MIN_VALUE, Integer.MAX_VALUE};

    private static void due(String call, long got, long want) {
        Due.due(call, got, want);
    }

    private static void promise1() {
        CordHouse x = new CordHouse();
        for (int r = 0; r < 4; r++) {
            int[] counts = {0, 0, 0, 15, 0, 0, 0};
            for (int what = 0; what < counts.length; what++) {
                due("1 count of a new one, " + what, x.count(r, what), counts[what]);
            }
            due("1 levels", x.levels(r), NONE);
            due("1 number", x.number(r, 0), NONE);
            due("1 drop", x.drop(r), NONE);
            due("1 span", x.span(r, 0, 0), NONE);
        }
        due("1 cured", x.cured(0), NONE);
        due("1 grouping", x.grouping(0, 0), NONE);
        CordHouse y = new CordHouse();
        x.cord(0, 0, 0, 100);
        due("1 objects apart", y.count(0, 0), 0);
    }

    private static void promise2() {
        CordHouse x = new CordHouse();
        due("2 least", x.cord(0, 0, 0, 10), 0);
        due("2 most", x.cord(0, 11, 23, 600), 1);
        due("2 another record", x.cord(3, 5, 5, 100), 0);
        for (int r : NO_RECORD) {
            due("2 no record " + r, x.cord(r, 0, 0, 100), RANGE);
        }
        due("2 group -1", x.cord(0, -1, 0, 100), RANGE);
        due("2 group 12", x.cord(0, 12, 0, 100), RANGE);
        due("2 colour -1", x.cord(0, 0, -1, 100), RANGE);
        due("2 colour 24", x.cord(0, 0, 24, 100), RANGE);
        due("2 length 9", x.cord(0, 0, 0, 9), RANGE);
        due("2 length 601", x.cord(0, 0, 0, 601), RANGE);
        due("2 none came", x.count(0, 0), 2);
        for (int c = 2; c < 60; c++) {
            due("2 to sixty", x.cord(0, c % 12, 0, 100), c);
        }
        due("2 full", x.cord(0, 0, 0, 100), FULL);
        due("2 range ahead of full", x.cord(0, 12, 0, 100), RANGE);
        due("2 sixty", x.count(0, 0), 60);
        due("2 others have room", x.cord(1, 0, 0, 100), 0);
    }

    private static void promise3() {
        CordHouse x = new CordHouse();
        due("3 on none", x.hang(0, 0, 0, 100), RANGE);
        x.cord(0, 0, 0, 100);
        due("3 below one", x.hang(0, 0, 23, 600), 1);
        due("3 below two", x.hang(0, 1, 0, 10), 2);
        due("3 below three", x.hang(0, 2, 0, 100), 3);
        due("3 below four", x.hang(0, 3, 0, 100), FULL);
        due("3 beside", x.hang(0, 2, 0, 100), 4);
        due("3 on itself to be", x.hang(0, 5, 0, 100), RANGE);
        due("3 on -1", x.hang(0, -1, 0, 100), RANGE);
        due("3 colour", x.hang(0, 0, 24, 100), RANGE);
        due("3 colour -1", x.hang(0, 0, -1, 100), RANGE);
        due("3 length", x.hang(0, 0, 0, 9), RANGE);
        due("3 length 601", x.hang(0, 0, 0, 601), RANGE);
        due("3 range ahead of full", x.hang(0, 3, 24, 100), RANGE);
        for (int r : NO_RECORD) {
            due("3 no record", x.hang(r, 0, 0, 100), RANGE);
        }
        due("3 on which", x.about(0, 3, 1), 2);
        due("3 no group", x.about(0, 3, 0), NONE);
        for (int c = 5; c < 60; c++) {
            due("3 to sixty", x.hang(0, 0, 0, 100), c);
        }
        due("3 full", x.hang(0, 0, 0, 100), FULL);
    }

    private static void promise4() {
        CordHouse x = new CordHouse();
        due("4 no cord", x.knot(0, 0, 1, 0, 0), RANGE);
        x.cord(0, 0, 0, 200);
        due("4 simple at 1", x.knot(0, 0, 1, 0, 0), 1);
        due("4 long of 2 at its length", x.knot(0, 0, 200, 1, 2), 2);
        due("4 long of 9", x.knot(0, 0, 150, 1, 9), 3);
        due("4 eight", x.knot(0, 0, 100, 2, 0), 4);
        due("4 height 0", x.knot(0, 0, 0, 0, 0), RANGE);
        due("4 height above length", x.knot(0, 0, 201, 0, 0), RANGE);
        due("4 one is there", x.knot(0, 0, 100, 0, 0), RANGE);
        due("4 sort -1", x.knot(0, 0, 50, -1, 0), RANGE);
        due("4 sort 3", x.knot(0, 0, 50, 3, 0), RANGE);
        due("4 simple with turns", x.knot(0, 0, 50, 0, 1), RANGE);
        due("4 eight with turns", x.knot(0, 0, 50, 2, 1), RANGE);
        due("4 long of 1", x.knot(0, 0, 50, 1, 1), RANGE);
        due("4 long of 10", x.knot(0, 0, 50, 1, 10), RANGE);
        due("4 cord -1", x.knot(0, -1, 50, 0, 0), RANGE);
        due("4 cord 1", x.knot(0, 1, 50, 0, 0), RANGE);
        for (int r : NO_RECORD) {
            due("4 no record", x.knot(r, 0, 50, 0, 0), RANGE);
        }
        due("4 none came", x.about(0, 0, 4), 4);
        for (int k = 5; k <= 30; k++) {
            due("4 to thirty", x.knot(0, 0, k, 0, 0), k);
        }
        due("4 full", x.knot(0, 0, 60, 0, 0), FULL);
        due("4 range ahead of full", x.knot(0, 0, 100, 0, 0), RANGE);
        x.cord(0, 0, 0, 200);
        x.tear(0, 1, 80);
        due("4 at the tear", x.knot(0, 1, 80, 0, 0), RANGE);
        due("4 behind the tear", x.knot(0, 1, 81, 0, 0), RANGE);
        due("4 ahead of the tear", x.knot(0, 1, 79, 0, 0), 1);
    }

    private static void promise5() {
        CordHouse x = new CordHouse();
        x.cord(0, 0, 0, 200);
        x.knot(0, 0, 10, 0, 0);
        x.knot(0, 0, 30, 1, 4);
        x.knot(0, 0, 20, 2, 0);
        due("5 none at", x.untie(0, 0, 11), NONE);
        due("5 height -1", x.untie(0, 0, -1), NONE);
        due("5 the middle one", x.untie(0, 0, 20), 2);
        due("5 it is gone", x.untie(0, 0, 20), NONE);
        due("5 first stays", x.knotAt(0, 0, 0, 0), 10);
        due("5 last stays", x.knotAt(0, 0, 1, 0), 30);
        due("5 with its turns", x.knotAt(0, 0, 1, 2), 4);
        due("5 the last", x.untie(0, 0, 30), 1);
        due("5 the only one", x.untie(0, 0, 10), 0);
        due("5 of none", x.untie(0, 0, 10), NONE);
        due("5 no cord", x.untie(0, 1, 10), NONE);
        due("5 cord -1", x.untie(0, -1, 10), NONE);
        for (int r : NO_RECORD) {
            due("5 no record", x.untie(r, 0, 10), NONE);
        }
        due("5 can be tied again", x.knot(0, 0, 10, 0, 0), 1);
    }

    private static void promise6() {
        CordHouse x = new CordHouse();
        x.cord(0, 0, 0, 200);
        for (int h = 10; h <= 200; h += 10) {
            x.knot(0, 0, h, 0, 0);
        }
        due("6 height 0", x.tear(0, 0, 0), RANGE);
        due("6 above its length", x.tear(0, 0, 201), RANGE);
        due("6 whole yet", x.about(0, 0, 5), NONE);
        due("6 at its length", x.tear(0, 0, 200), 19);
        due("6 between", x.tear(0, 0, 155), 15);
        due("6 at a knot", x.tear(0, 0, 100), 9);
        due("6 where", x.about(0, 0, 5), 100);
        due("6 not lesser", x.tear(0, 0, 100), RANGE);
        due("6 greater", x.tear(0, 0, 150), RANGE);
        due("6 at 1", x.tear(0, 0, 1), 0);
        due("6 no lesser is left", x.tear(0, 0, 1), RANGE);
        due("6 no cord", x.tear(0, 1, 50), RANGE);
        due("6 cord -1", x.tear(0, -1, 50), RANGE);
        for (int r : NO_RECORD) {
            due("6 no record", x.tear(r, 0, 50), RANGE);
        }
        due("6 torn ones", x.count(0, 4), 1);
    }

    /** A RECORD with six LEVELS of which CORD 0 keeps all, so that CORD 1 may hold any number. */
    private static CordHouse sixLevels() {
        CordHouse x = new CordHouse();
        Writing.cord(x, 0, 0, 0, 111111);
        x.cord(0, 0, 0, 420);
        return x;
    }

    private static void promise7() {
        CordHouse x = sixLevels();
        due("7 all digits", x.tie(0, 1, 204051), 204051);
        due("7 its number", x.number(0, 1), 204051);
        due("7 knots", x.about(0, 1, 4), 12);
        int[] heights = {59, 62, 176, 179, 182, 185, 294, 297, 300, 303, 306, 360};
        for (int k = 0; k < heights.length; k++) {
            due("7 height of knot " + k, x.knotAt(0, 1, k, 0), heights[k]);
            due("7 sort of knot " + k, x.knotAt(0, 1, k, 1), k == 11 ? 2 : 0);
            due("7 turns of knot " + k, x.knotAt(0, 1, k, 2), 0);
        }
        due("7 units in a long", x.tie(0, 1, 7), 7);
        due("7 just its knots", x.about(0, 1, 4), 1);
        due("7 long", x.knotAt(0, 1, 0, 1), 1);
        due("7 of seven", x.knotAt(0, 1, 0, 2), 7);
        due("7 nothing", x.tie(0, 1, 0), 0);
        due("7 no knots", x.about(0, 1, 4), 0);
        due("7 thirty knots", x.tie(0, 1, 990930), 990930);
        due("7 thirty of them", x.about(0, 1, 4), 30);
        due("7 thirty-one", x.tie(0, 1, 990931), NONE);
        due("7 forty-six", x.tie(0, 1, 999999), NONE);
        due("7 as it was", x.number(0, 1), 990930);
        due("7 number -1", x.tie(0, 1, -1), RANGE);
        due("7 number too great", x.tie(0, 1, 1000000), RANGE);
        due("7 no cord", x.tie(0, 2, 1), RANGE);
        due("7 cord -1", x.tie(0, -1, 1), RANGE);
        for (int r : NO_RECORD) {
            due("7 no record", x.tie(r, 0, 1), RANGE);
        }
        x.tear(0, 1, 400);
        due("7 torn", x.tie(0, 1, 5), NONE);
        due("7 torn, a number that can't be", x.tie(0, 1, -5), RANGE);
    }

    private static void promise7Levels() {
        CordHouse x = new CordHouse();
        x.cord(0, 0, 0, 420);
        due("7 no levels", x.tie(0, 0, 0), NONE);
        Writing.write(x, 0, 0, 30);
        x.cord(0, 0, 0, 420);
        due("7 units without a level", x.tie(0, 1, 25), NONE);
        due("7 hundreds without a level", x.tie(0, 1, 120), NONE);
        due("7 tens alone", x.tie(0, 1, 20), 20);
        due("7 tens alone, nothing", x.tie(0, 1, 0), 0);
        due("7 the last knots go", x.tie(0, 0, 0), 0);
        due("7 no level is left", x.levels(0), NONE);
        for (int h = 40; h <= 400; h += 60) {
            x.knot(0, 0, h, 0, 0);
        }
        due("7 too many levels", x.levels(0), NONE);
        due("7 none at them", x.tie(0, 1, 0), NONE);
    }

    private static void promise7Heights() {
        CordHouse x = new CordHouse();
        x.cord(0, 0, 0, 420);
        x.knot(0, 0, 10, 0, 0);
        x.knot(0, 0, 100, 1, 5);
        x.cord(0, 0, 0, 105);
        due("7 down to height 1", x.tie(0, 1, 70), 70);
        due("7 at 1", x.knotAt(0, 1, 0, 0), 1);
        due("7 to height 0 or less", x.tie(0, 1, 80), NONE);
        x.cord(0, 0, 0, 99);
        due("7 above its length", x.tie(0, 2, 2), NONE);
        due("7 within its length", x.tie(0, 2, 20), 20);
        x.cord(0, 0, 0, 100);
        due("7 at its length", x.tie(0, 3, 2), 2);
        CordHouse y = new CordHouse();
        y.gap(0, 2);
        y.cord(0, 0, 0, 420);
        y.knot(0, 0, 100, 0, 0);
        y.cord(0, 0, 0, 420);
        y.knot(0, 1, 106, 0, 0);
        y.cord(0, 0, 0, 420);
        due("7 two levels", y.levels(0), 2);
        due("7 two at one height", y.tie(0, 2, 330), NONE);
        due("7 clusters run together", y.tie(0, 2, 220), NONE);
        due("7 apart enough", y.tie(0, 2, 110), 110);
        due("7 more than 4 apart", y.knotAt(0, 2, 1, 0), 106);
    }

    private static void promise7Others() {
        CordHouse x = new CordHouse();
        Writing.cord(x, 0, 0, 0, 23);
        Writing.cord(x, 0, 0, 0, 100);
        x.settle(0);
        due("7 another's number would be another", x.tie(0, 0, 3), NONE);
        due("7 it is as it was", x.number(0, 0), 23);
        due("7 so is the other", x.number(0, 1), 100);
        due("7 knots as they were", x.about(0, 0, 4), 3);
        due("7 spans as they were", x.span(0, 0, 1), 23);
        due("7 its own number can", x.tie(0, 0, 21), 21);
        due("7 spans are gone", x.span(0, 0, 1), NONE);
        CordHouse y = new CordHouse();
        y.cord(0, 0, 0, 420);
        y.knot(0, 0, 110, 0, 0);
        y.cord(0, 0, 0, 420);
        y.knot(0, 1, 100, 0, 0);
        y.knot(0, 1, 120, 0, 0);
        due("7 a fault by what stands between", y.about(0, 1, 7), 3);
        due("7 another's fault would be another", y.tie(0, 0, 0), NONE);
        due("7 the knot stays", y.about(0, 0, 4), 1);
        Writing.simple(y, 0, 0, 200, 10);
        due("7 a faulty one itself", y.about(0, 0, 7), 2);
    }

    private static void promise8() {
        CordHouse x = new CordHouse();
        due("8 first gap", x.gap(0, 1), 15);
        due("8 then", x.gap(0, 100), 1);
        due("8 below", x.gap(0, 0), RANGE);
        due("8 above", x.gap(0, 101), RANGE);
        due("8 as it was", x.gap(0, 20), 100);
        due("8 another record", x.count(1, 3), 15);
        for (int r : NO_RECORD) {
            due("8 no record", x.gap(r, 10), RANGE);
        }
        x.cord(0, 0, 0, 420);
        x.knot(0, 0, 100, 0, 0);
        x.knot(0, 0, 120, 0, 0);
        due("8 as far as the gap", x.levels(0), 1);
        x.gap(0, 19);
        due("8 farther than the gap", x.levels(0), 2);
    }

    private static void promise9() {
        CordHouse x = new CordHouse();
        Writing.cord(x, 0, 0, 0, 12);
        Writing.cord(x, 0, 1, 0, 12);
        Writing.cord(x, 0, 2, 0, 24);
        Writing.sum(x, 0, 2, 0, 1);
        x.gap(0, 30);
        x.cord(1, 0, 0, 100);
        due("9 how many", x.clear(0), 3);
        int[] counts = {0, 0, 0, 15, 0, 0, 0};
        for (int what = 0; what < counts.length; what++) {
            due("9 count " + what, x.count(0, what), counts[what]);
        }
        due("9 another record", x.count(1, 0), 1);
        due("9 again", x.clear(0), 0);
        due("9 numbers from 0", x.cord(0, 3, 0, 100), 0);
        due("9 without old knots", x.about(0, 0, 4), 0);
        for (int r : NO_RECORD) {
            due("9 no record", x.clear(r), RANGE);
        }
    }

    private static void promise10() {
        CordHouse x = new CordHouse();
        Writing.cord(x, 0, 1, 2, 345);
        Writing.cord(x, 0, 3, 4, 345);
        x.hang(0, 1, 5, 300);
        x.tear(0, 2, 200);
        Writing.sum(x, 0, 0, 1, 2);
        x.gap(0, 20);
        Writing.cord(x, 3, 0, 0, 999);
        x.settle(0);
        due("10 how many", x.copy(0, 3), 3);
        for (int what = 0; what <= 6; what++) {
            due("10 count " + what, x.count(3, what), x.count(0, what));
        }
        for (int c = 0; c < 3; c++) {
            for (int what = 0; what <= 8; what++) {
                due("10 about " + c + " " + what, x.about(3, c, what), x.about(0, c, what));
            }
            due("10 number", x.number(3, c), x.number(0, c));
        }
        due("10 sums", x.sumAt(3, 0, 1), 2);
        due("10 a part", x.sumAt(3, 0, 11), 2);
        due("10 the copy was not settled", x.span(3, 0, 0), NONE);
        due("10 the other one still is", x.span(0, 0, 0), 345);
        x.knot(3, 0, 20, 0, 0);
        x.drop(3);
        due("10 they are apart", x.about(0, 0, 4), 8);
        due("10 their sums too", x.count(0, 2), 1);
        due("10 on itself", x.copy(0, 0), 3);
        due("10 nothing of it changed", x.span(0, 0, 0), 345);
        due("10 an empty one", x.copy(1, 3), 0);
        due("10 it is empty", x.count(3, 0), 0);
        for (int r : NO_RECORD) {
            due("10 no record", x.copy(r, 0), RANGE);
            due("10 to no record", x.copy(0, r), RANGE);
        }
    }

    public static void main(String[] args) {
        promise1();
        promise2();
        promise3();
        promise4();
        promise5();
        promise6();
        promise7();
        promise7Levels();
        promise7Heights();
        promise7Others();
        promise8();
        promise9();
        promise10();
        Due.end();
    }
}

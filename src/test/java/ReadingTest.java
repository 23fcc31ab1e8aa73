/** Promises 11 to 16: what is read from CORDS. */
public final class ReadingTest {
    private static final int NONE = -1;
    private static final int RANGE = -2;
    private static final int[] NO_RECORD = {-1, 4, Integer.MIN_VALUE, Integer.MAX_VALUE};

    private static void due(String call, long got, long want) {
        Due.due(call, got, want);
    }

    private static void promise11() {
        CordHouse x = new CordHouse();
        x.cord(0, 7, 21, 420);
        x.hang(0, 0, 3, 500);
        x.hang(0, 0, 4, 77);
        x.hang(0, 1, 4, 77);
        Writing.write(x, 0, 0, 203);
        x.knot(0, 1, 400, 0, 0);
        x.tear(0, 1, 450);
        int[][] want = {
            {7, NONE, 21, 420, 3, NONE, 2, 0, 2},
            {NONE, 0, 3, 500, 1, 450, 1, 4, 1},
            {NONE, 0, 4, 77, 0, NONE, 0, 0, 0},
            {NONE, 1, 4, 77, 0, NONE, 0, 0, 0}};
        x.gap(0, 60);
        for (int c = 0; c < want.length; c++) {
            for (int what = 0; what <= 8; what++) {
                due("11 about " + c + " " + what, x.about(0, c, what), want[c][what]);
            }
            due("11 what 9", x.about(0, c, 9), NONE);
            due("11 what -1", x.about(0, c, -1), NONE);
        }
        due("11 no cord", x.about(0, 4, 2), NONE);
        due("11 cord -1", x.about(0, -1, 2), NONE);
        for (int r : NO_RECORD) {
            due("11 no record", x.about(r, 0, 2), NONE);
        }
    }

    private static void promise11Clusters() {
        CordHouse x = new CordHouse();
        x.cord(0, 0, 0, 420);
        x.knot(0, 0, 100, 0, 0);
        x.knot(0, 0, 104, 0, 0);
        due("11 four behind", x.about(0, 0, 6), 1);
        x.knot(0, 0, 109, 0, 0);
        due("11 five behind", x.about(0, 0, 6), 2);
        x.knot(0, 0, 102, 1, 3);
        due("11 a long between", x.about(0, 0, 6), 4);
        x.knot(0, 0, 103, 1, 3);
        x.knot(0, 0, 101, 2, 0);
        due("11 each by itself", x.about(0, 0, 6), 6);
    }

    private static void promise11Faults() {
        CordHouse x = new CordHouse();
        x.cord(0, 0, 0, 600);
        x.cord(0, 0, 0, 600);
        due("11 no clusters, no fault", x.about(0, 0, 7), 0);
        Writing.simple(x, 0, 0, 100, 9);
        due("11 nine", x.about(0, 0, 7), 0);
        Writing.simple(x, 0, 1, 100, 10);
        due("11 ten", x.about(0, 1, 7), 2);
        x.knot(0, 1, 90, 2, 0);
        due("11 ten is ahead of two in one level", x.about(0, 1, 7), 2);
        due("11 a simple one in units", x.about(0, 0, 7), 4);
        x.knot(0, 0, 115, 2, 0);
        due("11 two in one level is ahead of that", x.about(0, 0, 7), 3);
        for (int h = 150; h <= 270; h += 20) {
            x.knot(0, 0, h, 0, 0);
        }
        due("11 no levels is ahead of all", x.about(0, 1, 7), 1);
        x.cord(0, 0, 0, 100);
        due("11 no levels and no knots", x.about(0, 2, 7), 1);
        CordHouse y = new CordHouse();
        y.cord(0, 0, 0, 600);
        y.knot(0, 0, 100, 1, 5);
        y.knot(0, 0, 200, 2, 0);
        due("11 a long ahead of units", y.about(0, 0, 7), 4);
        y.knot(0, 0, 300, 0, 0);
        due("11 a simple one behind", y.about(0, 0, 7), 4);
        due("11 as a number", y.number(0, 0), -14);
    }

    private static void promise12() {
        CordHouse x = new CordHouse();
        x.cord(0, 0, 0, 420);
        x.knot(0, 0, 300, 1, 9);
        x.knot(0, 0, 5, 2, 0);
        x.knot(0, 0, 100, 0, 0);
        int[][] want = {{5, 2, 0}, {100, 0, 0}, {300, 1, 9}};
        for (int k = 0; k < 3; k++) {
            for (int what = 0; what < 3; what++) {
                due("12 knot " + k + " " + what, x.knotAt(0, 0, k, what), want[k][what]);
            }
            due("12 what 3", x.knotAt(0, 0, k, 3), NONE);
            due("12 what -1", x.knotAt(0, 0, k, -1), NONE);
        }
        due("12 no knot 3", x.knotAt(0, 0, 3, 0), NONE);
        due("12 no knot -1", x.knotAt(0, 0, -1, 0), NONE);
        due("12 no cord", x.knotAt(0, 1, 0, 0), NONE);
        due("12 cord -1", x.knotAt(0, -1, 0, 0), NONE);
        for (int r : NO_RECORD) {
            due("12 no record", x.knotAt(r, 0, 0, 0), NONE);
        }
        x.tear(0, 0, 100);
        due("12 torn off", x.knotAt(0, 0, 1, 0), NONE);
    }

    private static void promise13() {
        CordHouse x = new CordHouse();
        due("13 empty", x.levels(0), NONE);
        x.cord(0, 0, 0, 600);
        due("13 no clusters", x.levels(0), NONE);
        for (int n = 1; n <= 5; n++) {
            x.knot(0, 0, 50 * n, 0, 0);
            due("13 levels of tens and on", x.levels(0), n);
        }
        x.knot(0, 0, 300, 0, 0);
        due("13 seven digits with units", x.levels(0), NONE);
        x.cord(0, 0, 0, 600);
        x.knot(0, 1, 310, 2, 0);
        due("13 six digits", x.levels(0), 6);
        x.knot(0, 1, 350, 1, 3);
        due("13 seven digits", x.levels(0), NONE);
        x.cord(1, 0, 0, 600);
        x.knot(1, 0, 600, 2, 0);
        x.knot(1, 0, 1, 0, 0);
        due("13 from end to end", x.levels(1), 2);
        for (int r : NO_RECORD) {
            due("13 no record", x.levels(r), RANGE);
        }
    }

    private static void promise14() {
        CordHouse x = new CordHouse();
        x.cord(0, 0, 0, 600);
        x.cord(0, 0, 0, 600);
        x.knot(0, 0, 100, 0, 0);
        x.knot(0, 1, 115, 0, 0);
        x.knot(0, 0, 130, 0, 0);
        x.knot(0, 0, 133, 0, 0);
        x.knot(0, 1, 200, 0, 0);
        x.knot(0, 1, 203, 0, 0);
        int[][] tens = {{100, 115, 1000, 2}, {131, 131, 100, 1}, {201, 201, 10, 1}};
        levelsAre(x, "14 ", tens, 3);
        x.knot(0, 0, 220, 2, 0);
        x.knot(0, 1, 217, 1, 2);
        int[][] units = {{100, 115, 1000, 2}, {131, 131, 100, 1}, {201, 201, 10, 1}, {217, 220, 1, 2}};
        x.gap(0, 15);
        levelsAre(x, "14 units ", units, 4);
        due("14 no level 4", x.level(0, 4, 0), NONE);
        due("14 no level -1", x.level(0, -1, 0), NONE);
        due("14 what 4", x.level(0, 0, 4), NONE);
        due("14 what -1", x.level(0, 0, -1), NONE);
        due("14 none", x.level(1, 0, 0), NONE);
        for (int r : NO_RECORD) {
            due("14 no record", x.level(r, 0, 0), NONE);
        }
    }

    private static void levelsAre(CordHouse x, String head, int[][] want, int n) {
        // 100 and 115 are a gap apart, 115 and 131 one more
        due(head + "how many", x.levels(0), n);
        for (int l = 0; l < n; l++) {
            for (int what = 0; what < 4; what++) {
                due(head + l + " " + what, x.level(0, l, what), want[l][what]);
            }
        }
    }

    private static void promise15() {
        CordHouse x = new CordHouse();
        x.cord(0, 0, 0, 420);
        due("15 no knots at all", x.number(0, 0), 0);
        Writing.write(x, 0, 0, 111111);
        due("15 all ones", x.number(0, 0), 111111);
        int[] numbers = {0, 1, 9, 10, 90, 105, 999, 1000, 90909, 100000, 711110, 999300};
        for (int i = 0; i < numbers.length; i++) {
            due("15 cord", Writing.cord(x, 0, 0, 0, numbers[i]), i + 1);
            due("15 number " + numbers[i], x.number(0, i + 1), numbers[i]);
        }
        due("15 no cord", x.number(0, numbers.length + 1), NONE);
        due("15 cord -1", x.number(0, -1), NONE);
        for (int r : NO_RECORD) {
            due("15 no record", x.number(r, 0), NONE);
        }
        x.knot(0, 5, 313, 0, 0);
        due("15 fault 3", x.number(0, 5), -13);
        x.knot(0, 3, 60, 1, 2);
        due("15 fault 4", x.number(0, 3), -14);
        Writing.simple(x, 0, 2, 120, 10);
        due("15 fault 2", x.number(0, 2), -12);
        x.knot(0, 1, 410, 0, 0);
        due("15 fault 1", x.number(0, 0), -11);
    }

    /** Of a TORN CORD the number is without the digits of LEVELS whose last PLACE is at the tear or behind. */
    private static void promise15Torn() {
        CordHouse x = new CordHouse();
        Writing.cord(x, 0, 0, 0, 345);
        x.cord(0, 0, 0, 420);
        x.knot(0, 1, 310, 0, 0);
        x.cord(0, 0, 0, 420);
        x.knot(0, 2, 292, 0, 0);
        x.knot(0, 2, 240, 0, 0);
        due("15 whole", x.number(0, 2), 110);
        x.tear(0, 2, 311);
        due("15 tear behind the level's last place", x.number(0, 2), 110);
        x.tear(0, 2, 310);
        due("15 tear at the level's last place", x.number(0, 2), 100);
        due("15 the knot is there", x.about(0, 2, 4), 2);
        x.tear(0, 2, 1);
        due("15 all is lost", x.number(0, 2), 0);
    }

    private static void promise16() {
        CordHouse x = new CordHouse();
        Writing.cord(x, 0, 0, 0, 100);
        for (int i = 1; i <= 3; i++) {
            x.hang(0, 0, 0, 420);
            Writing.write(x, 0, i, 10 * i + i);
        }
        x.hang(0, 1, 0, 420);
        Writing.write(x, 0, 4, 500);
        due("16 those on it", x.under(0, 0), 66);
        due("16 one", x.under(0, 1), 500);
        due("16 none", x.under(0, 2), 0);
        x.tear(0, 4, 400);
        due("16 a torn one farther down", x.under(0, 0), 66);
        due("16 a torn one", x.under(0, 1), NONE);
        x.tear(0, 0, 400);
        due("16 torn itself", x.under(0, 0), 66);
        x.knot(0, 2, 310, 0, 0);
        due("16 one with a fault", x.under(0, 0), NONE);
        due("16 no cord", x.under(0, 5), NONE);
        due("16 cord -1", x.under(0, -1), NONE);
        for (int r : NO_RECORD) {
            due("16 no record", x.under(r, 0), NONE);
        }
    }

    public static void main(String[] args) {
        promise11();
        promise11Clusters();
        promise11Faults();
        promise12();
        promise13();
        promise14();
        promise15();
        promise15Torn();
        promise16();
        Due.end();
    }
}

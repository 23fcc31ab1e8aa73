/** Each sentence of promises 11 to 16 that names an edge has a method of its own. */
public final class EdgesOfReadingTest {
    private static final int NONE = -1;
    private static final int RANGE = -2;
    private static final int[] NO_RECORD = {-1, 4, Integer.MIN_VALUE, Integer.MAX_VALUE};
    private static final int[] FAR = {-1, Integer.MIN_VALUE, Integer.MAX_VALUE};

    private static void due(String call, long got, long want) {
        Due.due(call, got, want);
    }

    // ---- promise 11

    /** CORD 0 on the main one, 1 on 0, 2 on 1, 3 on 0. */
    private static CordHouse hung() {
        CordHouse x = new CordHouse();
        x.cord(0, 0, 0, 10);
        x.hang(0, 0, 23, 600);
        x.hang(0, 1, 1, 11);
        x.hang(0, 0, 22, 599);
        return x;
    }

    private static void aboutGroup() {
        Due.sentence("11: what 0: GROUP (NONE of one that hangs on another)");
        CordHouse x = hung();
        x.cord(0, 11, 0, 100);
        due("group 0", x.about(0, 0, 0), 0);
        due("group 11", x.about(0, 4, 0), 11);
        for (int c = 1; c <= 3; c++) {
            due("hung " + c, x.about(0, c, 0), NONE);
        }
    }

    private static void aboutOn() {
        Due.sentence("11: 1: on which CORD (NONE)");
        CordHouse x = hung();
        due("on the main one", x.about(0, 0, 1), NONE);
        due("on 0", x.about(0, 1, 1), 0);
        due("on 1", x.about(0, 2, 1), 1);
        due("on 0, too", x.about(0, 3, 1), 0);
    }

    private static void aboutColourAndLength() {
        Due.sentence("11: 2: colour, 3: length");
        CordHouse x = hung();
        int[] colours = {0, 23, 1, 22};
        int[] lengths = {10, 600, 11, 599};
        for (int c = 0; c < 4; c++) {
            due("colour of " + c, x.about(0, c, 2), colours[c]);
            due("length of " + c, x.about(0, c, 3), lengths[c]);
        }
    }

    private static void aboutKnots() {
        Due.sentence("11: 4: KNOTS");
        CordHouse x = hung();
        due("none", x.about(0, 1, 4), 0);
        for (int k = 1; k <= 30; k++) {
            x.knot(0, 1, 20 * k, 0, 0);
        }
        due("thirty", x.about(0, 1, 4), 30);
        x.untie(0, 1, 20);
        due("one is untied", x.about(0, 1, 4), 29);
        x.tear(0, 1, 600);
        due("one is torn off", x.about(0, 1, 4), 28);
    }

    private static void aboutTear() {
        Due.sentence("11: 5: where it is TORN (NONE)");
        CordHouse x = hung();
        due("whole", x.about(0, 1, 5), NONE);
        x.tear(0, 1, 600);
        due("at its length", x.about(0, 1, 5), 600);
        x.tear(0, 1, 1);
        due("at 1", x.about(0, 1, 5), 1);
        due("what hangs on it is whole", x.about(0, 2, 5), NONE);
    }

    private static void aboutClusters() {
        Due.sentence("11: 6: CLUSTERS");
        CordHouse x = hung();
        due("none", x.about(0, 1, 6), 0);
        for (int k = 1; k <= 30; k++) {
            x.knot(0, 1, 20 * k, 0, 0);
        }
        due("thirty, without levels", x.about(0, 1, 6), 30);
        x.tear(0, 1, 21);
        due("one", x.about(0, 1, 6), 1);
        x.knot(0, 1, 16, 0, 0);
        due("one of two knots", x.about(0, 1, 6), 1);
        due("none of another", x.about(0, 2, 6), 0);
    }

    private static void aboutFault() {
        Due.sentence("11: 7: its FAULT (0)");
        CordHouse x = new CordHouse();
        x.cord(0, 0, 0, 600);
        due("without clusters", x.about(0, 0, 7), 0);
        Writing.simple(x, 0, 0, 100, 10);
        due("2", x.about(0, 0, 7), 2);
        x.untie(0, 0, 91);
        due("none again", x.about(0, 0, 7), 0);
        x.knot(0, 0, 114, 0, 0);
        due("3", x.about(0, 0, 7), 3);
        x.untie(0, 0, 114);
        x.cord(0, 0, 0, 600);
        x.knot(0, 1, 101, 2, 0);
        due("4", x.about(0, 0, 7), 4);
        for (int h = 200; h <= 400; h += 40) {
            x.knot(0, 1, h, 0, 0);
        }
        due("1", x.about(0, 0, 7), 1);
    }

    private static void aboutHowMany() {
        Due.sentence("11: 8: how many hang on it");
        CordHouse x = hung();
        due("two", x.about(0, 0, 8), 2);
        due("one", x.about(0, 1, 8), 1);
        due("none", x.about(0, 2, 8), 0);
        CordHouse y = new CordHouse();
        y.cord(0, 0, 0, 100);
        for (int c = 1; c < 60; c++) {
            y.hang(0, 0, 0, 100);
        }
        due("fifty-nine", y.about(0, 0, 8), 59);
    }

    private static void aboutNone() {
        Due.sentence("11: NONE when there is none such.");
        CordHouse x = hung();
        for (int what = 0; what <= 8; what++) {
            for (int r : NO_RECORD) {
                due("record " + r, x.about(r, 0, what), NONE);
            }
            for (int c : FAR) {
                due("cord " + c, x.about(0, c, what), NONE);
            }
            due("cord 4", x.about(0, 4, what), NONE);
            due("an empty record", x.about(1, 0, what), NONE);
        }
        for (int what : FAR) {
            due("what " + what, x.about(0, 0, what), NONE);
        }
        due("what 9", x.about(0, 0, 9), NONE);
    }

    // ---- promises 12 to 14

    private static void knotAtByHeights() {
        Due.sentence("12: Of KNOT k of a CORD, by rising heights from 0 on, what 0: height, 1: sort, 2: turns");
        CordHouse x = new CordHouse();
        x.cord(0, 0, 0, 600);
        x.knot(0, 0, 600, 1, 9);
        x.knot(0, 0, 1, 1, 2);
        x.knot(0, 0, 300, 2, 0);
        x.knot(0, 0, 299, 0, 0);
        int[][] want = {{1, 1, 2}, {299, 0, 0}, {300, 2, 0}, {600, 1, 9}};
        for (int k = 0; k < 4; k++) {
            for (int what = 0; what < 3; what++) {
                due("knot " + k + " what " + what, x.knotAt(0, 0, k, what), want[k][what]);
            }
        }
    }

    private static void knotAtNone() {
        Due.sentence("12: NONE when there is none such.");
        CordHouse x = new CordHouse();
        x.cord(0, 0, 0, 600);
        due("no knot", x.knotAt(0, 0, 0, 0), NONE);
        for (int k = 1; k <= 30; k++) {
            x.knot(0, 0, 20 * k, 0, 0);
        }
        due("the last", x.knotAt(0, 0, 29, 0), 600);
        due("behind the last", x.knotAt(0, 0, 30, 0), NONE);
        for (int n : FAR) {
            due("knot " + n, x.knotAt(0, 0, n, 0), NONE);
            due("what " + n, x.knotAt(0, 0, 0, n), NONE);
            due("cord " + n, x.knotAt(0, n, 0, 0), NONE);
        }
        due("what 3", x.knotAt(0, 0, 0, 3), NONE);
        due("cord 1", x.knotAt(0, 1, 0, 0), NONE);
        for (int r : NO_RECORD) {
            due("record " + r, x.knotAt(r, 0, 0, 0), NONE);
        }
        x.cord(0, 0, 0, 600);
        due("none of another", x.knotAt(0, 1, 0, 0), NONE);
        x.untie(0, 0, 20);
        due("one less", x.knotAt(0, 0, 29, 0), NONE);
        x.tear(0, 0, 60);
        due("one is left", x.knotAt(0, 0, 0, 0), 40);
        due("torn off", x.knotAt(0, 0, 1, 0), NONE);
    }

    private static void levelsThereAre() {
        Due.sentence("13: How many LEVELS a RECORD has");
        CordHouse x = new CordHouse();
        x.cord(0, 0, 0, 600);
        x.knot(0, 0, 600, 2, 0);
        due("one", x.levels(0), 1);
        for (int n = 2; n <= 6; n++) {
            x.knot(0, 0, 600 - 16 * (n - 1), 0, 0);
            due("more", x.levels(0), n);
        }
        x.untie(0, 0, 600);
        due("five, of tens", x.levels(0), 5);
    }

    private static void levelsNone() {
        Due.sentence("13: NONE: none (as told)");
        CordHouse x = new CordHouse();
        due("no cord", x.levels(0), NONE);
        x.cord(0, 0, 0, 600);
        due("no knot", x.levels(0), NONE);
        for (int n = 1; n <= 6; n++) {
            x.knot(0, 0, 50 * n, 0, 0);
        }
        due("seven digits", x.levels(0), NONE);
        x.knot(0, 0, 350, 2, 0);
        due("seven with units", x.levels(0), NONE);
        x.untie(0, 0, 50);
        due("six", x.levels(0), 6);
    }

    private static void levelsRange() {
        Due.sentence("13: RANGE");
        CordHouse x = new CordHouse();
        for (int r : NO_RECORD) {
            due("record " + r, x.levels(r), RANGE);
        }
    }

    private static void levelOf() {
        Due.sentence("14: Of LEVEL l, from 0 (the first, that counts most) on, what 0: its first PLACE, 1: its last,"
            + " 2: what it counts, 3: CLUSTERS");
        CordHouse x = new CordHouse();
        x.cord(0, 0, 0, 600);
        x.cord(0, 0, 0, 600);
        x.knot(0, 0, 1, 0, 0);
        x.knot(0, 1, 16, 0, 0);
        x.knot(0, 0, 32, 0, 0);
        x.knot(0, 0, 600, 0, 0);
        x.knot(0, 1, 600, 0, 0);
        x.knot(0, 1, 585, 1, 2);
        int[][] want = {{1, 16, 100, 2}, {32, 32, 10, 1}, {585, 600, 1, 3}};
        for (int l = 0; l < 3; l++) {
            for (int what = 0; what < 4; what++) {
                due("level " + l + " what " + what, x.level(0, l, what), want[l][what]);
            }
        }
    }

    private static void levelNone() {
        Due.sentence("14: NONE when there is none such.");
        CordHouse x = new CordHouse();
        due("no level", x.level(0, 0, 0), NONE);
        x.cord(0, 0, 0, 600);
        for (int n = 1; n <= 5; n++) {
            x.knot(0, 0, 50 * n, 0, 0);
        }
        due("the last", x.level(0, 4, 0), 250);
        due("behind the last", x.level(0, 5, 0), NONE);
        for (int n : FAR) {
            due("level " + n, x.level(0, n, 0), NONE);
            due("what " + n, x.level(0, 0, n), NONE);
        }
        due("what 4", x.level(0, 0, 4), NONE);
        for (int r : NO_RECORD) {
            due("record " + r, x.level(r, 0, 0), NONE);
        }
        x.knot(0, 0, 300, 0, 0);
        due("too many are none", x.level(0, 0, 0), NONE);
    }

    // ---- promises 15 and 16

    private static void numberTorn() {
        Due.sentence("15: A CORD's number (of a TORN one without what is lost)");
        CordHouse x = new CordHouse();
        Writing.cord(x, 0, 0, 0, 111111);
        Writing.cord(x, 0, 0, 0, 111111);
        due("whole", x.number(0, 1), 111111);
        int[] tears = {361, 360, 301, 300, 240, 180, 120, 60, 1};
        int[] left = {111111, 111110, 111110, 111100, 111000, 110000, 100000, 0, 0};
        for (int i = 0; i < tears.length; i++) {
            x.tear(0, 1, tears[i]);
            due("torn at " + tears[i], x.number(0, 1), left[i]);
        }
        due("another one", x.number(0, 0), 111111);
    }

    private static void numberNone() {
        Due.sentence("15: NONE: no such CORD");
        CordHouse x = new CordHouse();
        due("an empty record", x.number(0, 0), NONE);
        Writing.cord(x, 0, 0, 0, 5);
        due("cord 1", x.number(0, 1), NONE);
        for (int c : FAR) {
            due("cord " + c, x.number(0, c), NONE);
        }
        for (int r : NO_RECORD) {
            due("record " + r, x.number(r, 0), NONE);
        }
        x.clear(0);
        due("it is gone", x.number(0, 0), NONE);
    }

    private static void numberOfAFault() {
        Due.sentence("15: -10 and less: less 10 less its FAULT");
        CordHouse x = new CordHouse();
        x.cord(0, 0, 0, 600);
        due("no fault", x.number(0, 0), 0);
        Writing.simple(x, 0, 0, 100, 10);
        due("2", x.number(0, 0), -12);
        x.untie(0, 0, 91);
        x.knot(0, 0, 114, 0, 0);
        due("3", x.number(0, 0), -13);
        x.untie(0, 0, 114);
        x.cord(0, 0, 0, 600);
        x.knot(0, 1, 101, 2, 0);
        due("4", x.number(0, 0), -14);
        for (int h = 200; h <= 400; h += 40) {
            x.knot(0, 1, h, 0, 0);
        }
        due("1", x.number(0, 0), -11);
        x.tear(0, 0, 600);
        due("1 of a torn one", x.number(0, 0), -11);
        x.tear(0, 1, 100);
        due("no fault of a torn one", x.number(0, 0), 90);
    }

    private static void underAll() {
        Due.sentence("16: The sum of the numbers of all CORDS that hang on a CORD");
        CordHouse x = new CordHouse();
        Writing.cord(x, 0, 0, 0, 999300);
        due("none", x.under(0, 0), 0);
        for (int c = 1; c <= 4; c++) {
            x.hang(0, 0, 0, 420);
            x.tie(0, c, 99900);
        }
        x.hang(0, 4, 0, 420);
        due("four levels alone, of tens", x.number(0, 1), 99900);
        due("four", x.under(0, 0), 399600);
        due("one that hangs on one of them", x.under(0, 4), 0);
        x.tie(0, 5, 30);
        due("is under that one", x.under(0, 4), 30);
        due("and not under the first", x.under(0, 0), 399600);
    }

    private static void underMany() {
        Due.sentence("16: The sum of the numbers of all CORDS that hang on a CORD [fifty-nine]");
        CordHouse x = new CordHouse();
        Writing.cord(x, 0, 0, 0, 111111);
        for (int c = 1; c < 60; c++) {
            x.hang(0, 0, 0, 420);
            x.tie(0, c, 999300);
        }
        due("more than six digits", x.under(0, 0), 59 * 999300);
    }

    private static void underNoCord() {
        Due.sentence("16: NONE: no such CORD");
        CordHouse x = new CordHouse();
        due("an empty record", x.under(0, 0), NONE);
        x.cord(0, 0, 0, 100);
        due("cord 1", x.under(0, 1), NONE);
        for (int c : FAR) {
            due("cord " + c, x.under(0, c), NONE);
        }
        for (int r : NO_RECORD) {
            due("record " + r, x.under(r, 0), NONE);
        }
    }

    private static void underTorn() {
        Due.sentence("16: NONE: [..] or one of them is TORN");
        for (int torn = 1; torn <= 3; torn++) {
            CordHouse x = new CordHouse();
            Writing.cord(x, 0, 0, 0, 111);
            for (int c = 1; c <= 3; c++) {
                x.hang(0, 0, 0, 420);
                x.tie(0, c, c);
            }
            due("whole", x.under(0, 0), 6);
            x.tear(0, 0, 400);
            due("it is torn itself", x.under(0, 0), 6);
            x.hang(0, 1, 0, 100);
            x.tear(0, 4, 50);
            due("one farther down is torn", x.under(0, 0), 6);
            x.tear(0, torn, 420);
            due("one is torn, though nothing is lost", x.under(0, 0), NONE);
        }
    }

    private static void underFault() {
        Due.sentence("16: NONE: [..] or has a FAULT");
        for (int faulty = 1; faulty <= 3; faulty++) {
            CordHouse x = new CordHouse();
            Writing.cord(x, 0, 0, 0, 111);
            for (int c = 1; c <= 3; c++) {
                x.hang(0, 0, 0, 420);
                x.tie(0, c, c);
            }
            x.knot(0, 0, 310, 0, 0);
            due("it has a fault itself", x.under(0, 0), 6);
            x.knot(0, faulty, 350, 0, 0);
            due("one has", x.under(0, 0), NONE);
        }
    }

    public static void main(String[] args) {
        aboutGroup();
        aboutOn();
        aboutColourAndLength();
        aboutKnots();
        aboutTear();
        aboutClusters();
        aboutFault();
        aboutHowMany();
        aboutNone();
        knotAtByHeights();
        knotAtNone();
        levelsThereAre();
        levelsNone();
        levelsRange();
        levelOf();
        levelNone();
        numberTorn();
        numberNone();
        numberOfAFault();
        underAll();
        underMany();
        underNoCord();
        underTorn();
        underFault();
        Due.end();
    }
}

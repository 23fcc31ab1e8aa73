/** Each sentence of promises 25 to 29 that names an edge has a method of its own. */
public final class EdgesOfGroupsTest {
    private static final int NONE = -1;
    private static final int RANGE = -2;
    private static final int FULL = -3;
    private static final int[] NO_RECORD = {-1, 4, Integer.MIN_VALUE, Integer.MAX_VALUE};
    private static final int[] FAR = {-1, Integer.MIN_VALUE, Integer.MAX_VALUE};

    private static void due(String call, long got, long want) {
        Due.due(call, got, want);
    }

    /** A CORD in each GROUP, by rising GROUPS. */
    private static CordHouse oneEach(int... numbers) {
        CordHouse x = new CordHouse();
        for (int g = 0; g < numbers.length; g++) {
            Writing.cord(x, 0, g, 0, numbers[g]);
        }
        return x;
    }

    // ---- promises 25 and 26

    private static void foundMany() {
        Due.sentence("25: How many GROUPINGS a RECORD has");
        due("an empty record", new CordHouse().found(0), 0);
        due("none", oneEach(1, 1, 1).found(0), 0);
        due("one", oneEach(2, 1, 1).found(0), 1);
        CordHouse x = new CordHouse();
        Writing.cord(x, 3, 11, 0, 3);
        Writing.cord(x, 3, 10, 0, 2);
        Writing.cord(x, 3, 9, 0, 1);
        due("the last groups of the last record", x.found(3), 1);
        due("g", x.grouping(0, 0), 11);
        due("the set", x.grouping(0, 1), 1 << 10 | 1 << 9);
    }

    private static void foundBehindALonger() {
        Due.sentence("25: How many GROUPINGS a RECORD has [behind a longer one]");
        CordHouse x = oneEach(3, 1, 2);
        x.copy(0, 1);
        int[] more = {70, 40, 20};
        for (int g = 0; g < 3; g++) {
            Writing.cord(x, 1, g, 0, more[g]);
            x.cord(2, g, 0, 100);
        }
        due("of two each, not kept", x.found(1), 0);
        due("of one each, kept", x.found(0), 1);
        due("of two each, again", x.found(1), 0);
        due("of nothing each", x.found(2), 0);
    }

    private static void foundSixty() {
        Due.sentence("25: How many GROUPINGS a RECORD has [of sixty CORDS]");
        CordHouse x = new CordHouse();
        for (int c = 0; c < 60; c++) {
            x.cord(0, 11, 0, 420);
            x.cord(1, c % 12, 0, 420);
        }
        Writing.write(x, 0, 59, 5);
        due("all in the last group", x.found(0), 0);
        for (int g = 9; g < 12; g++) {
            Writing.write(x, 1, 48 + g, g == 11 ? 3 : g - 8);
        }
        for (int g = 0; g < 9; g++) {
            x.tear(1, 48 + g, 50);
        }
        due("five each, the last alone above 0", x.found(1), 1);
        due("the last group", x.grouping(0, 0), 11);
    }

    private static void foundRange() {
        Due.sentence("25: RANGE");
        CordHouse x = oneEach(2, 1, 1);
        for (int r : NO_RECORD) {
            due("record " + r, x.found(r), RANGE);
        }
        due("nothing found", x.grouping(0, 0), NONE);
    }

    private static void foundFull() {
        Due.sentence("25: FULL: more than 300 (none is told then)");
        CordHouse x = oneEach(0, 3, 1, 1, 0, 4, 2, 0, 5, 4, 0);
        due("just 300", x.found(0), 300);
        due("the first is told", x.grouping(0, 0), 1);
        due("the last is told", x.grouping(299, 0), 9);
        due("no 301st", x.grouping(300, 0), NONE);
        CordHouse y = oneEach(1, 1, 1, 1, 5, 1, 15, 2, 1, 7, 12, 3);
        y.copy(0, 1);
        y.tear(1, 11, 1);
        due("some ahead", y.found(1) > 0 ? 1 : 0, 1);
        due("told", y.grouping(0, 0) >= 0 ? 1 : 0, 1);
        due("just 301", y.found(0), FULL);
        for (int i : new int[] {0, 1, 299, 300}) {
            due("none is told of " + i, y.grouping(i, 0), NONE);
            due("nor its set", y.grouping(i, 1), NONE);
        }
    }

    private static void groupingByOrder() {
        Due.sentence("26: Of GROUPING i of the latest found() (by g, then by the set as bits), what 0: g, 1: the set, bit h: GROUP h");
        CordHouse x = oneEach(4, 3, 1, 2, 2);
        // 4 is 3 and 1, 2 and 2; 3 is 1 and 2, twice
        due("how many", x.found(0), 4);
        int[][] want = {{0, 6}, {0, 24}, {1, 12}, {1, 20}};
        for (int i = 0; i < 4; i++) {
            due("g of " + i, x.grouping(i, 0), want[i][0]);
            due("the set of " + i, x.grouping(i, 1), want[i][1]);
        }
    }

    private static void groupingOfTheLatest() {
        Due.sentence("26: the latest found()");
        CordHouse x = oneEach(2, 1, 1);
        due("none yet", x.grouping(0, 0), NONE);
        x.found(0);
        x.tie(0, 0, 3);
        due("whatever came then", x.grouping(0, 1), 6);
        x.found(1);
        due("of another record", x.grouping(0, 1), NONE);
        x.tie(0, 0, 2);
        x.found(0);
        due("of the first again", x.grouping(0, 1), 6);
        x.found(0);
        due("once", x.grouping(1, 1), NONE);
    }

    private static void groupingNone() {
        Due.sentence("26: NONE when there is none such.");
        CordHouse x = oneEach(2, 1, 1);
        x.found(0);
        due("behind the last", x.grouping(1, 0), NONE);
        for (int n : FAR) {
            due("i " + n, x.grouping(n, 0), NONE);
            due("what " + n, x.grouping(0, n), NONE);
        }
        due("what 2", x.grouping(0, 2), NONE);
    }

    // ---- promise 27

    private static int periodOf(int... colours) {
        CordHouse x = new CordHouse();
        for (int c : colours) {
            x.cord(0, 11, c, 100);
            x.cord(0, 10, 0, 100);
        }
        return x.period(0, 11);
    }

    private static void periodLeast() {
        Due.sentence("27: The least p, 1 or more, so that of the CORDS of a GROUP each has the colour of the p-th one ahead");
        due("all alike", periodOf(5, 5, 5, 5), 1);
        due("two", periodOf(0, 23, 0, 23), 2);
        due("two, cut", periodOf(0, 23, 0, 23, 0), 2);
        due("the last is unlike", periodOf(0, 23, 0, 23, 1), 5);
        due("four, not two", periodOf(0, 23, 0, 22, 0, 23, 0, 22), 4);
        due("three", periodOf(1, 1, 2, 1, 1, 2, 1), 3);
    }

    private static void periodNoneAhead() {
        Due.sentence("27: if there is one");
        due("one cord", periodOf(7), 1);
        due("two unlike", periodOf(7, 8), 2);
        due("the last is as the first", periodOf(7, 8, 9, 7), 3);
        due("all unlike", periodOf(7, 8, 9, 6), 4);
        CordHouse x = new CordHouse();
        for (int c = 0; c < 60; c++) {
            x.cord(0, 0, c < 59 ? 4 : 5, 100);
        }
        due("sixty", x.period(0, 0), 60);
    }

    private static void periodNoSuch() {
        Due.sentence("27: NONE: no such RECORD, GROUP");
        CordHouse x = new CordHouse();
        x.cord(0, 0, 0, 100);
        x.cord(0, 11, 0, 100);
        x.hang(0, 0, 0, 100);
        for (int r : NO_RECORD) {
            due("record " + r, x.period(r, 0), NONE);
        }
        for (int g : FAR) {
            due("group " + g, x.period(0, g), NONE);
        }
        due("group 12", x.period(0, 12), NONE);
        due("group 0", x.period(0, 0), 1);
        due("group 11", x.period(0, 11), 1);
    }

    private static void periodHasNone() {
        Due.sentence("27: or it has none");
        CordHouse x = new CordHouse();
        due("an empty record", x.period(0, 0), NONE);
        x.cord(0, 3, 0, 100);
        x.hang(0, 0, 0, 100);
        for (int g = 0; g < 12; g++) {
            due("group " + g, x.period(0, g), g == 3 ? 1 : NONE);
        }
    }

    // ---- promise 28

    /** A RECORD of CORDS, each of a colour and a number. */
    private static void row(CordHouse x, int r, int... coloursAndNumbers) {
        for (int i = 0; i < coloursAndNumbers.length; i += 2) {
            Writing.cord(x, r, 0, coloursAndNumbers[i], coloursAndNumbers[i + 1]);
        }
    }

    private static void likenessInOneOrder() {
        Due.sentence("28: The longest row of CORDS (any, in their order) that two RECORDS have in one order");
        CordHouse x = new CordHouse();
        due("two empty ones", x.likeness(0, 1), 0);
        row(x, 0, 1, 1, 2, 2, 3, 3, 4, 4);
        due("one empty one", x.likeness(0, 1), 0);
        due("the other empty one", x.likeness(1, 0), 0);
        due("itself", x.likeness(0, 0), 4);
        row(x, 1, 4, 4, 3, 3, 2, 2, 1, 1);
        due("the other way round", x.likeness(0, 1), 1);
        row(x, 2, 2, 2, 9, 9, 4, 4);
        due("with one between", x.likeness(0, 2), 2);
        due("with one between, the other way", x.likeness(2, 0), 2);
        row(x, 3, 1, 1, 1, 1, 1, 1);
        due("one counts once", x.likeness(0, 3), 1);
        due("one of three, the other way", x.likeness(3, 0), 1);
    }

    private static void likenessSixty() {
        Due.sentence("28: The longest row of CORDS [sixty]");
        CordHouse x = new CordHouse();
        for (int c = 0; c < 60; c++) {
            x.cord(0, 0, c % 24, 100);
        }
        x.copy(0, 1);
        due("sixty", x.likeness(0, 1), 60);
        x.tear(1, 59, 50);
        due("without the last", x.likeness(0, 1), 59);
        x.tear(1, 0, 50);
        due("without the first", x.likeness(0, 1), 58);
        due("the other way", x.likeness(1, 0), 58);
    }

    private static void likenessOfOneColour() {
        Due.sentence("28: of one colour, one number");
        CordHouse x = new CordHouse();
        row(x, 0, 1, 1, 2, 2);
        row(x, 1, 1, 2, 2, 1);
        due("of unlike numbers", x.likeness(0, 1), 0);
        row(x, 2, 2, 1, 1, 2);
        due("of unlike colours", x.likeness(0, 2), 0);
        due("of those two", x.likeness(1, 2), 1);
        x.cord(3, 7, 9, 600);
        x.hang(3, 0, 1, 400);
        due("of a number of nothing", x.likeness(0, 3), 0);
        x.knot(3, 1, 390, 2, 0);
        due("of other groups, lengths, heights", x.likeness(0, 3), 1);
    }

    private static void likenessTornOrFault() {
        Due.sentence("28: none TORN or with a FAULT");
        CordHouse x = new CordHouse();
        row(x, 0, 1, 1, 2, 2, 3, 3);
        x.copy(0, 1);
        x.tear(0, 1, 420);
        due("torn in the first", x.likeness(0, 1), 2);
        due("torn in the second", x.likeness(1, 0), 2);
        due("torn in both", x.likeness(0, 0), 2);
        x.knot(1, 0, 350, 0, 0);
        due("a fault in the second", x.likeness(0, 1), 1);
        due("a fault in the first", x.likeness(1, 0), 1);
        due("a fault in both", x.likeness(1, 1), 2);
    }

    private static void likenessRange() {
        Due.sentence("28: RANGE");
        CordHouse x = new CordHouse();
        for (int r : NO_RECORD) {
            due("record " + r, x.likeness(r, 0), RANGE);
            due("other " + r, x.likeness(0, r), RANGE);
            due("both " + r, x.likeness(r, r), RANGE);
        }
    }

    // ---- promise 29

    private static void countMost() {
        Due.sentence("29: What 0: CORDS, 1: KNOTS of all, 2: SUMS, 3: GAP, 4: TORN ones, 5: those with a FAULT,"
            + " 6: CORDS on the main one");
        CordHouse x = new CordHouse();
        int[] none = {0, 0, 0, 15, 0, 0, 0};
        for (int what = 0; what <= 6; what++) {
            due("empty, " + what, x.count(0, what), none[what]);
        }
        Writing.cord(x, 0, 0, 0, 111111);
        for (int c = 1; c < 60; c++) {
            due("cord", c < 30 ? x.cord(0, 0, 0, 420) : x.hang(0, 0, 0, 420), c);
            due("thirty knots", x.tie(0, c, 999300), 999300);
        }
        for (int s = 0; s < 40; s++) {
            x.sum(0, s);
        }
        x.gap(0, 1);
        int[] most = {60, 6 + 59 * 30, 40, 1, 0, 0, 30};
        for (int what = 0; what <= 6; what++) {
            due("full, " + what, x.count(0, what), most[what]);
        }
        for (int c = 0; c < 60; c++) {
            x.tear(0, c, 420);
        }
        due("all torn", x.count(0, 4), 60);
        x.gap(0, 100);
        due("all with a fault: one level", x.count(0, 5), 60);
    }

    private static void countFaults() {
        Due.sentence("29: 5: those with a FAULT");
        CordHouse x = new CordHouse();
        x.cord(0, 0, 0, 600);
        x.cord(0, 0, 0, 600);
        due("none", x.count(0, 5), 0);
        x.knot(0, 0, 100, 0, 0);
        x.knot(0, 0, 110, 0, 0);
        due("one", x.count(0, 5), 1);
        for (int h = 200; h <= 400; h += 40) {
            x.knot(0, 0, h, 0, 0);
        }
        due("no levels: both", x.count(0, 5), 2);
        x.tear(0, 0, 1);
        due("no clusters: none", x.count(0, 5), 0);
    }

    private static void countNone() {
        Due.sentence("29: NONE for others, or no such RECORD.");
        CordHouse x = new CordHouse();
        x.cord(0, 0, 0, 100);
        for (int what : FAR) {
            due("what " + what, x.count(0, what), NONE);
        }
        due("what 7", x.count(0, 7), NONE);
        for (int what = 0; what <= 6; what++) {
            for (int r : NO_RECORD) {
                due("record " + r, x.count(r, what), NONE);
            }
        }
    }

    public static void main(String[] args) {
        foundMany();
        foundBehindALonger();
        foundSixty();
        foundRange();
        foundFull();
        groupingByOrder();
        groupingOfTheLatest();
        groupingNone();
        periodLeast();
        periodNoneAhead();
        periodNoSuch();
        periodHasNone();
        likenessInOneOrder();
        likenessSixty();
        likenessOfOneColour();
        likenessTornOrFault();
        likenessRange();
        countMost();
        countFaults();
        countNone();
        Due.end();
    }
}

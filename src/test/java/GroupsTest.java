/** Promises 25 to 29: GROUPINGS, periods, likeness and counts. */
public final class GroupsTest {
    private static final int NONE = -1;
    private static final int RANGE = -2;
    private static final int FULL = -3;
    private static final int[] NO_RECORD = {-1, 4, Integer.MIN_VALUE, Integer.MAX_VALUE};

    private static void due(String call, long got, long want) {
        Due.due(call, got, want);
    }

    /** A CORD in each GROUP, by rising GROUPS. */
    private static CordHouse oneEach(int... numbers) {
        CordHouse x = new CordHouse();
        for (int g = 0; g < numbers.length; g++) {
            Writing.cord(x, 0, g, 0, numbers[g]);
        }
        return x;
    }

    private static void foundAre(String what, CordHouse x, int... pairs) {
        due(what + ", how many", x.found(0), pairs.length / 2);
        for (int i = 0; i < pairs.length / 2; i++) {
            due(what + ", group of " + i, x.grouping(i, 0), pairs[2 * i]);
            due(what + ", set of " + i, x.grouping(i, 1), pairs[2 * i + 1]);
        }
        due(what + ", no more", x.grouping(pairs.length / 2, 0), NONE);
    }

    private static void promise25And26() {
        foundAre("25 by g", oneEach(3, 1, 2), 0, 6);
        foundAre("25 by the set", oneEach(1, 2, 3, 3, 0), 2, 3, 2, 19, 2, 24, 3, 3, 3, 19, 3, 20);
        foundAre("25 one other is no set", oneEach(3, 3));
        foundAre("25 nothing above 0", oneEach(0, 0, 0, 0));
        CordHouse x = oneEach(3, 1, 2);
        due("26 nothing found yet", x.grouping(0, 0), NONE);
        x.found(0);
        due("26 i -1", x.grouping(-1, 0), NONE);
        due("26 what 2", x.grouping(0, 2), NONE);
        due("26 what -1", x.grouping(0, -1), NONE);
        for (int r : NO_RECORD) {
            due("25 no record", x.found(r), RANGE);
        }
        x.clear(0);
        due("26 of the latest found(), whatever came then", x.grouping(0, 1), 6);
        due("25 an empty record", x.found(0), 0);
        due("26 of that", x.grouping(0, 0), NONE);
    }

    private static void promise25Members() {
        CordHouse x = oneEach(3, 1, 2);
        int[] second = {30, 20, 10};
        for (int g = 2; g >= 0; g--) {
            Writing.cord(x, 0, g, 0, second[g]);
        }
        foundAre("25 each i-th", x, 0, 6);
        x.hang(0, 1, 0, 420);
        Writing.write(x, 0, 6, 5);
        foundAre("25 one that hangs on another is in no group", x, 0, 6);
        x.tie(0, 5, 31);
        foundAre("25 one of them is not kept", x);
        x.tie(0, 5, 30);
        x.cord(0, 1, 0, 100);
        foundAre("25 not as many", x);
        x.cord(0, 0, 0, 100);
        x.cord(0, 2, 0, 100);
        foundAre("25 as many again", x, 0, 6);
        x.copy(0, 1);
        x.tear(0, 7, 90);
        foundAre("25 a torn one", x);
        x.tear(0, 8, 90);
        foundAre("25 two torn ones", x);
        x.copy(1, 0);
        x.knot(0, 9, 60, 1, 4);
        foundAre("25 one with a fault", x);
    }

    private static void promise25After() {
        CordHouse x = oneEach(3, 1, 2);
        Writing.cord(x, 1, 0, 0, 3);
        Writing.cord(x, 1, 1, 0, 1);
        Writing.cord(x, 1, 2, 0, 2);
        for (int g = 0; g < 3; g++) {
            Writing.cord(x, 1, g, 0, 50 - 10 * g);
        }
        due("25 a longer one, not kept", x.found(1), 0);
        due("25 a shorter one behind it", x.found(0), 1);
    }

    private static void promise25Unsound() {
        CordHouse x = oneEach(3, 1, 2, 7, 7, 0);
        foundAre("25 two by two", x, 0, 6, 0, 38, 3, 48, 4, 40);
        x.tear(0, 1, 400);
        x.tear(0, 5, 400);
        foundAre("25 two groups with torn ones", x);
    }

    private static void promise25Full() {
        CordHouse x = oneEach(0, 3, 1, 1, 0, 4, 2, 0, 5, 4, 0);
        due("25 just 300", x.found(0), 300);
        due("26 the last has a group", x.grouping(299, 0), 9);
        due("26 none behind", x.grouping(300, 0), NONE);
        CordHouse y = oneEach(1, 1, 1, 1, 5, 1, 15, 2, 1, 7, 12, 3);
        due("25 301", y.found(0), FULL);
        due("26 none is told then", y.grouping(0, 0), NONE);
        due("26 nor a later one", y.grouping(299, 0), NONE);
        CordHouse z = oneEach(5, 5, 0, 0, 0, 0, 0, 0, 0, 0, 0, 0);
        due("25 many more", z.found(0), FULL);
        z.copy(1, 0);
        due("25 found anew", z.found(0), 0);
    }

    private static int periodOf(int... colours) {
        CordHouse x = new CordHouse();
        for (int c : colours) {
            x.cord(0, 4, c, 100);
            x.cord(0, 5, 0, 100);
            x.hang(0, 0, 9, 100);
        }
        return x.period(0, 4);
    }

    private static void promise27() {
        CordHouse empty = new CordHouse();
        due("27 an empty record", empty.period(0, 0), NONE);
        due("27 one cord", periodOf(3), 1);
        due("27 all alike", periodOf(3, 3, 3), 1);
        due("27 two by two", periodOf(1, 2, 1, 2, 1), 2);
        due("27 three", periodOf(1, 2, 2, 1, 2, 2, 1), 3);
        due("27 cut off in the middle", periodOf(1, 2, 3, 4, 1, 2), 4);
        due("27 none comes again", periodOf(1, 2, 3), 3);
        due("27 broken at the end", periodOf(1, 1, 1, 2), 4);
        CordHouse x = new CordHouse();
        x.cord(0, 0, 0, 100);
        due("27 none in the group", x.period(0, 1), NONE);
        due("27 group -1", x.period(0, -1), NONE);
        due("27 group 12", x.period(0, 12), NONE);
        for (int r : NO_RECORD) {
            due("27 no record", x.period(r, 0), NONE);
        }
    }

    private static void row(CordHouse x, int r, int... coloursAndNumbers) {
        for (int i = 0; i < coloursAndNumbers.length; i += 2) {
            Writing.cord(x, r, i % 12, coloursAndNumbers[i], coloursAndNumbers[i + 1]);
        }
    }

    private static void promise28() {
        CordHouse x = new CordHouse();
        due("28 empty ones", x.likeness(0, 1), 0);
        row(x, 0, 1, 11, 2, 12, 3, 13, 4, 14, 5, 15);
        row(x, 1, 3, 13, 1, 11, 4, 14, 2, 12, 5, 15);
        due("28 in one order", x.likeness(0, 1), 3);
        due("28 the other way", x.likeness(1, 0), 3);
        due("28 with itself", x.likeness(0, 0), 5);
        due("28 with an empty one", x.likeness(0, 2), 0);
        row(x, 2, 1, 12, 2, 11, 5, 15);
        due("28 colour and number", x.likeness(0, 2), 1);
        x.hang(2, 0, 1, 420);
        Writing.write(x, 2, 3, 11);
        x.hang(1, 0, 1, 420);
        Writing.write(x, 1, 5, 11);
        due("28 those that hang on others too", x.likeness(1, 2), 2);
        x.tear(1, 5, 400);
        due("28 a torn one", x.likeness(1, 2), 1);
        x.knot(0, 0, 310, 0, 0);
        due("28 one with a fault, with itself", x.likeness(0, 0), 4);
        for (int r : NO_RECORD) {
            due("28 no record", x.likeness(r, 0), RANGE);
            due("28 no other", x.likeness(0, r), RANGE);
        }
    }

    private static void promise29() {
        CordHouse x = new CordHouse();
        row(x, 2, 0, 23, 0, 5, 0, 100);
        x.hang(2, 0, 0, 420);
        x.hang(2, 1, 0, 420);
        x.tear(2, 4, 300);
        x.tear(2, 3, 200);
        Writing.sum(x, 2, 0, 1, 2);
        x.sum(2, 1);
        x.gap(2, 17);
        x.knot(2, 1, 350, 0, 0);
        int[] want = {5, 6, 2, 17, 2, 1, 3};
        for (int what = 0; what < want.length; what++) {
            due("29 count " + what, x.count(2, what), want[what]);
            for (int r : NO_RECORD) {
                due("29 no record", x.count(r, what), NONE);
            }
        }
        due("29 what 7", x.count(2, 7), NONE);
        due("29 what -1", x.count(2, -1), NONE);
    }

    public static void main(String[] args) {
        promise25And26();
        promise25Members();
        promise25After();
        promise25Unsound();
        promise25Full();
        promise27();
        promise28();
        promise29();
        Due.end();
    }
}

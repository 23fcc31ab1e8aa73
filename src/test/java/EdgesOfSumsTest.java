/** Each sentence of promises 17 to 24 that names an edge has a method of its own. */
public final class EdgesOfSumsTest {
    private static final int NONE = -1;
    private static final int RANGE = -2;
    private static final int FULL = -3;
    private static final int SPENT = -4;
    private static final int[] NO_RECORD = {-1, 4, Integer.MIN_VALUE, Integer.MAX_VALUE};
    private static final int[] FAR = {-1, Integer.MIN_VALUE, Integer.MAX_VALUE};

    private static void due(String call, long got, long want) {
        Due.due(call, got, want);
    }

    private static void spanIs(CordHouse x, String what, int c, int least, int greatest) {
        due(what + ", least of " + c, x.span(0, c, 0), least);
        due(what + ", greatest of " + c, x.span(0, c, 1), greatest);
    }

    private static CordHouse withNumbers(int... numbers) {
        CordHouse x = new CordHouse();
        for (int n : numbers) {
            Writing.cord(x, 0, 0, 0, n);
        }
        return x;
    }

    /** 30 is 10 and 20. */
    private static CordHouse thirty() {
        CordHouse x = withNumbers(30, 10, 20);
        Writing.sum(x, 0, 0, 1, 2);
        return x;
    }

    // ---- promises 17 to 20

    private static void sumIsNumbered() {
        Due.sentence("17: A SUM more, whose whole is a CORD, without parts yet: its number");
        CordHouse x = withNumbers(1, 2);
        due("the first", x.sum(0, 1), 0);
        due("its whole", x.sumAt(0, 0, 0), 1);
        due("no parts", x.sumAt(0, 0, 1), 0);
        x.part(0, 0);
        due("the second", x.sum(0, 0), 1);
        due("no parts", x.sumAt(0, 1, 1), 0);
        due("of one whole, too", x.sum(0, 0), 2);
        x.part(0, 1);
        x.drop(0);
        due("in the room of one that had a part", x.sum(0, 1), 2);
        due("no parts", x.sumAt(0, 2, 1), 0);
        due("its whole", x.sumAt(0, 2, 0), 1);
    }

    private static void sumRange() {
        Due.sentence("17: RANGE");
        CordHouse x = withNumbers(1);
        for (int r : NO_RECORD) {
            due("record " + r, x.sum(r, 0), RANGE);
        }
        for (int c : FAR) {
            due("cord " + c, x.sum(0, c), RANGE);
        }
        due("cord 1", x.sum(0, 1), RANGE);
        due("an empty record", x.sum(1, 0), RANGE);
        due("none came", x.count(0, 2), 0);
    }

    private static void sumFull() {
        Due.sentence("17: FULL");
        CordHouse x = withNumbers(1, 2);
        for (int s = 0; s < 40; s++) {
            due("sum " + s, x.sum(0, s % 2), s);
        }
        due("one more", x.sum(0, 0), FULL);
        due("forty", x.count(0, 2), 40);
        due("the last stays the latest", x.part(0, 0), 1);
        x.copy(0, 1);
        due("a copy is full, too", x.sum(1, 0), FULL);
        x.clear(1);
        Writing.cord(x, 1, 0, 0, 1);
        due("room again", x.sum(1, 0), 0);
    }

    private static void partIsCounted() {
        Due.sentence("18: A CORD is one more part of the latest SUM: how many parts");
        CordHouse x = withNumbers(1, 2, 3);
        x.sum(0, 0);
        due("one", x.part(0, 1), 1);
        due("two", x.part(0, 2), 2);
        x.sum(0, 1);
        due("one of the next", x.part(0, 2), 1);
        due("the first has its own", x.sumAt(0, 0, 1), 2);
        x.drop(0);
        x.cord(0, 0, 0, 100);
        due("three of the first, that is the latest again", x.part(0, 3), 3);
    }

    private static void partNoSum() {
        Due.sentence("18: RANGE: no SUM");
        CordHouse x = withNumbers(1, 2);
        due("none yet", x.part(0, 0), RANGE);
        x.sum(0, 0);
        x.drop(0);
        due("none any more", x.part(0, 1), RANGE);
        x.sum(0, 0);
        Writing.cord(x, 1, 0, 0, 1);
        due("none of this record", x.part(1, 0), RANGE);
    }

    private static void partNoCord() {
        Due.sentence("18: RANGE: [..] no such CORD");
        CordHouse x = withNumbers(1, 2);
        x.sum(0, 0);
        for (int r : NO_RECORD) {
            due("record " + r, x.part(r, 1), RANGE);
        }
        for (int c : FAR) {
            due("cord " + c, x.part(0, c), RANGE);
        }
        due("cord 2", x.part(0, 2), RANGE);
        due("none came", x.sumAt(0, 0, 1), 0);
    }

    private static void partTheWhole() {
        Due.sentence("18: RANGE: [..] it is the whole");
        CordHouse x = withNumbers(1, 2);
        x.sum(0, 1);
        due("the whole", x.part(0, 1), RANGE);
        x.part(0, 0);
        due("the whole, behind a part", x.part(0, 1), RANGE);
        due("one part", x.sumAt(0, 0, 1), 1);
    }

    private static void partAlready() {
        Due.sentence("18: RANGE: [..] or a part already");
        CordHouse x = withNumbers(1, 2, 3);
        x.sum(0, 0);
        x.part(0, 1);
        due("the last", x.part(0, 1), RANGE);
        x.part(0, 2);
        due("the first", x.part(0, 1), RANGE);
        due("two parts", x.sumAt(0, 0, 1), 2);
        x.sum(0, 0);
        due("of the sum ahead", x.part(0, 1), 1);
    }

    private static void partFull() {
        Due.sentence("18: FULL");
        CordHouse x = new CordHouse();
        for (int c = 0; c < 14; c++) {
            x.cord(0, 0, 0, 100);
        }
        x.sum(0, 13);
        for (int c = 0; c < 12; c++) {
            due("part", x.part(0, c), c + 1);
        }
        due("the thirteenth", x.part(0, 12), FULL);
        due("twelve", x.sumAt(0, 0, 1), 12);
        due("the twelfth stays", x.sumAt(0, 0, 21), 11);
        due("no thirteenth", x.sumAt(0, 0, 22), NONE);
        x.sum(0, 13);
        due("of the next", x.part(0, 12), 1);
        due("the twelfth still stays", x.sumAt(0, 0, 21), 11);
    }

    private static void dropLeft() {
        Due.sentence("19: The latest SUM is gone: how many are left");
        CordHouse x = withNumbers(1, 2);
        for (int s = 0; s < 40; s++) {
            x.sum(0, s % 2);
        }
        due("of forty", x.drop(0), 39);
        due("the latest is gone", x.sumAt(0, 39, 0), NONE);
        due("the one ahead is the last", x.sumAt(0, 38, 0), 0);
        for (int s = 38; s >= 0; s--) {
            due("left", x.drop(0), s);
        }
    }

    private static void dropNone() {
        Due.sentence("19: NONE: there is none");
        CordHouse x = withNumbers(1, 2);
        due("none yet", x.drop(0), NONE);
        due("an empty record", x.drop(1), NONE);
        x.sum(0, 0);
        due("none in another record", x.drop(1), NONE);
        x.drop(0);
        due("none any more", x.drop(0), NONE);
        due("none", x.count(0, 2), 0);
    }

    private static void dropRange() {
        Due.sentence("19: RANGE");
        CordHouse x = withNumbers(1);
        x.sum(0, 0);
        for (int r : NO_RECORD) {
            due("record " + r, x.drop(r), RANGE);
        }
        due("it stays", x.count(0, 2), 1);
    }

    private static void sumAtWhole() {
        Due.sentence("20: Of SUM s, what 0: the whole, 1: parts");
        CordHouse x = new CordHouse();
        for (int c = 0; c < 60; c++) {
            x.cord(0, 0, 0, 100);
        }
        for (int s = 0; s < 40; s++) {
            x.sum(0, 59 - s);
        }
        for (int c = 0; c < 12; c++) {
            x.part(0, c);
        }
        due("the whole of the first", x.sumAt(0, 0, 0), 59);
        due("the whole of the last", x.sumAt(0, 39, 0), 20);
        due("no parts of the first", x.sumAt(0, 0, 1), 0);
        due("the parts of the last", x.sumAt(0, 39, 1), 12);
        due("the last part of the last", x.sumAt(0, 39, 21), 11);
    }

    private static void sumAtKept() {
        Due.sentence("20: 2: 1 if the numbers keep it, 0 if not");
        CordHouse x = thirty();
        due("kept", x.sumAt(0, 0, 2), 1);
        x.tie(0, 0, 40);
        due("one too many", x.sumAt(0, 0, 2), 0);
        x.tie(0, 0, 20);
        due("one too few", x.sumAt(0, 0, 2), 0);
        CordHouse zeros = new CordHouse();
        for (int c = 0; c < 3; c++) {
            zeros.cord(0, 0, 0, 100);
        }
        Writing.sum(zeros, 0, 0, 1, 2);
        due("nothing is nothing and nothing", zeros.sumAt(0, 0, 2), 1);
        CordHouse twelve = new CordHouse();
        Writing.cord(twelve, 0, 0, 0, 111111);
        for (int c = 1; c <= 12; c++) {
            twelve.cord(0, 0, 0, 420);
            twelve.tie(0, c, 900000);
        }
        Writing.sum(twelve, 0, 0, 1, 2, 3, 4, 5, 6, 7, 8, 9, 10, 11, 12);
        due("parts of more than six digits", twelve.sumAt(0, 0, 2), 0);
    }

    private static void sumAtTornOrFault() {
        Due.sentence("20: NONE if one is TORN or has a FAULT");
        for (int c = 0; c < 3; c++) {
            CordHouse x = thirty();
            x.tear(0, c, 420);
            due("torn, nothing lost: " + c, x.sumAt(0, 0, 2), NONE);
            CordHouse y = thirty();
            y.knot(0, c, 285, 0, 0);
            due("a fault: " + c, y.about(0, c, 7), 3);
            due("has a fault: " + c, y.sumAt(0, 0, 2), NONE);
        }
        CordHouse z = thirty();
        z.cord(0, 0, 0, 100);
        z.tear(0, 3, 50);
        due("torn, elsewhere", z.sumAt(0, 0, 2), 1);
    }

    private static void sumAtFewParts() {
        Due.sentence("20: (parts below 2: NONE, too)");
        CordHouse x = withNumbers(10, 10, 0);
        x.sum(0, 0);
        due("none", x.sumAt(0, 0, 2), NONE);
        x.part(0, 1);
        due("one, though it is as much", x.sumAt(0, 0, 2), NONE);
        x.part(0, 2);
        due("two", x.sumAt(0, 0, 2), 1);
    }

    private static void sumAtParts() {
        Due.sentence("20: 10 and on: its parts");
        CordHouse x = withNumbers(1, 2, 3);
        Writing.sum(x, 0, 1, 2, 0);
        due("the first", x.sumAt(0, 0, 10), 2);
        due("the second", x.sumAt(0, 0, 11), 0);
        due("no third", x.sumAt(0, 0, 12), NONE);
        due("what 9", x.sumAt(0, 0, 9), NONE);
        x.sum(0, 0);
        due("none of a new one", x.sumAt(0, 1, 10), NONE);
        due("what 22", x.sumAt(0, 0, 22), NONE);
        due("the most", x.sumAt(0, 0, Integer.MAX_VALUE), NONE);
    }

    private static void sumAtNone() {
        Due.sentence("20: NONE when there is none such.");
        CordHouse x = thirty();
        for (int what = 0; what <= 11; what++) {
            for (int r : NO_RECORD) {
                due("record " + r, x.sumAt(r, 0, what), NONE);
            }
            for (int s : FAR) {
                due("sum " + s, x.sumAt(0, s, what), NONE);
            }
            due("sum 1", x.sumAt(0, 1, what), NONE);
            due("no sum at all", x.sumAt(1, 0, what), NONE);
        }
        for (int what = 3; what <= 9; what++) {
            due("what " + what, x.sumAt(0, 0, what), NONE);
        }
        due("what -1", x.sumAt(0, 0, -1), NONE);
        due("the least", x.sumAt(0, 0, Integer.MIN_VALUE), NONE);
    }

    // ---- promises 21 and 22

    private static void settleFewParts() {
        Due.sentence("21: The rounds are done (SUMS of less than 2 parts aside)");
        CordHouse x = withNumbers(30, 10, 20);
        x.tear(0, 1, 1);
        x.sum(0, 0);
        due("no parts", x.settle(0), 0);
        spanIs(x, "its own", 1, 0, 99);
        x.part(0, 1);
        due("one part", x.settle(0), 0);
        spanIs(x, "its own still", 1, 0, 99);
        x.part(0, 2);
        due("two", x.settle(0), 1);
        spanIs(x, "closer", 1, 10, 10);
        x.sum(0, 0);
        due("a sum without parts behind it", x.settle(0), 1);
    }

    private static void settleChanged() {
        Due.sentence("21: how many changed something");
        CordHouse x = thirty();
        due("none", x.settle(0), 0);
        x.tear(0, 0, 1);
        due("one", x.settle(0), 1);
        due("one, done again", x.settle(0), 1);
        due("no cords", x.settle(1), 0);
        // 21 is 1 and 20, then 22 is 21 and 1: 22 is told in the second round
        CordHouse y = withNumbers(1, 20, 21, 22, 11);
        y.tear(0, 2, 1);
        y.tear(0, 3, 1);
        Writing.sum(y, 0, 2, 0, 1);
        Writing.sum(y, 0, 3, 2, 0);
        due("two", y.settle(0), 2);
        spanIs(y, "told", 3, 22, 22);
        // 30 .. 39 is 30 and 9, or 30 and nothing
        CordHouse z = withNumbers(31, 30, 9);
        z.tear(0, 0, 360);
        Writing.sum(z, 0, 0, 1, 2);
        due("a least alone", z.settle(0), 1);
        spanIs(z, "told", 0, 39, 39);
        Writing.cord(z, 0, 0, 0, 0);
        z.drop(0);
        Writing.sum(z, 0, 0, 1, 3);
        due("a greatest alone", z.settle(0), 1);
        spanIs(z, "told", 0, 30, 30);
    }

    private static void settleBroken() {
        Due.sentence("21: NONE: BROKEN");
        CordHouse x = withNumbers(30, 10, 21, 1);
        Writing.sum(x, 0, 0, 1, 2);
        due("one too many", x.settle(0), NONE);
        x.tie(0, 2, 20);
        due("kept", x.settle(0), 0);
        x.tie(0, 2, 19);
        due("one too few", x.settle(0), NONE);
        x.tear(0, 1, 361);
        due("torn, but nothing is lost", x.settle(0), NONE);
        x.tear(0, 1, 360);
        due("units are lost: 10 .. 19", x.settle(0), 1);
        spanIs(x, "told", 1, 11, 11);
    }

    /** 0 is 1 and a step, 1 is 0 and nothing: each two rounds the ends come nearer by a step. */
    private static CordHouse slow(int step) {
        CordHouse x = withNumbers(0, 0, step, 0, 111);
        x.tear(0, 0, 1);
        x.tear(0, 1, 1);
        Writing.sum(x, 0, 0, 1, 2);
        Writing.sum(x, 0, 1, 0, 3);
        return x;
    }

    private static void settleSpent() {
        Due.sentence("21: -4: SPENT");
        due("a step of 1", slow(1).settle(0), SPENT);
        due("a step of 4", slow(4).settle(0), SPENT);
        due("a step of 5 is broken by the 200th", slow(5).settle(0), NONE);
        due("a step of 6 is broken ahead of it", slow(6).settle(0), NONE);
        due("no step", slow(0).settle(0), 0);
    }

    private static void settleRange() {
        Due.sentence("21: RANGE");
        CordHouse x = thirty();
        x.settle(0);
        for (int r : NO_RECORD) {
            due("record " + r, x.settle(r), RANGE);
        }
        due("spans stay", x.span(0, 0, 0), 30);
    }

    private static void spanAsItEnded() {
        Due.sentence("22: By the latest settle() of the RECORD, as it ended: a CORD's SPAN");
        CordHouse x = slow(2);
        x.settle(0);
        spanIs(x, "spent", 0, 200, 799);
        spanIs(x, "spent", 1, 200, 799);
        x.copy(0, 1);
        x.settle(1);
        due("another record's", x.span(1, 0, 0), 200);
        x.drop(1);
        x.settle(1);
        due("another record's latest", x.span(1, 0, 0), 2);
        spanIs(x, "as it was", 0, 200, 799);
    }

    private static void spanSides() {
        Due.sentence("22: side 0 its least, 1 its greatest");
        CordHouse x = thirty();
        x.drop(0);
        x.tear(0, 1, 300);
        x.settle(0);
        due("least", x.span(0, 1, 0), 0);
        due("greatest", x.span(0, 1, 1), 99);
        due("side 2", x.span(0, 1, 2), NONE);
        for (int side : FAR) {
            due("side " + side, x.span(0, 1, side), NONE);
        }
    }

    private static void spanThatIsNone() {
        Due.sentence("22: (also of one that is none)");
        CordHouse x = withNumbers(5, 7, 8);
        Writing.sum(x, 0, 0, 1, 2);
        due("broken", x.settle(0), NONE);
        spanIs(x, "the whole", 0, 15, 5);
        spanIs(x, "a part, its greatest below 0", 1, 7, -3);
        spanIs(x, "another", 2, 8, -2);
    }

    private static void spanNone() {
        Due.sentence("22: NONE when there is none such");
        CordHouse x = thirty();
        x.settle(0);
        x.settle(1);
        for (int r : NO_RECORD) {
            due("record " + r, x.span(r, 0, 0), NONE);
        }
        for (int c : FAR) {
            due("cord " + c, x.span(0, c, 0), NONE);
        }
        due("cord 3", x.span(0, 3, 0), NONE);
        due("no cord at all", x.span(1, 0, 0), NONE);
        due("cord 2", x.span(0, 2, 0), 20);
    }

    private interface Change {
        void on(CordHouse x);
    }

    private static void endsSpans(String what, Change change) {
        CordHouse x = thirty();
        x.copy(0, 1);
        x.settle(0);
        x.settle(1);
        due("ahead of " + what, x.span(0, 0, 0), 30);
        change.on(x);
        due("behind " + what, x.span(0, 0, 0), NONE);
        due("another record's, behind " + what, x.span(1, 0, 0), 30);
    }

    private static void spanNoSettle() {
        Due.sentence("22: or no settle() since anything of the RECORD changed");
        due("never", thirty().span(0, 0, 0), NONE);
        endsSpans("cord", x -> x.cord(0, 0, 0, 100));
        endsSpans("hang", x -> x.hang(0, 0, 0, 100));
        endsSpans("knot", x -> x.knot(0, 0, 1, 0, 0));
        endsSpans("untie", x -> x.untie(0, 1, 300));
        endsSpans("tear", x -> x.tear(0, 1, 420));
        endsSpans("a second tear", x -> {
            x.tear(0, 1, 420);
            x.settle(0);
            due("settled between", x.span(0, 0, 0), 30);
            x.tear(0, 1, 419);
        });
        endsSpans("tie", x -> x.tie(0, 1, 20));
        endsSpans("tie of nothing", x -> x.tie(0, 1, 0));
        endsSpans("tie of as many knots elsewhere", x -> x.tie(0, 2, 20));
        endsSpans("gap", x -> x.gap(0, 14));
        endsSpans("clear", x -> x.clear(0));
        endsSpans("copy of an empty one", x -> x.copy(2, 0));
        endsSpans("copy of one with a tear", x -> {
            x.copy(0, 2);
            x.tear(2, 1, 420);
            x.copy(2, 0);
        });
        endsSpans("copy of one with another gap", x -> {
            x.copy(0, 2);
            x.gap(2, 16);
            x.copy(2, 0);
        });
        endsSpans("copy of one with another sum", x -> {
            x.copy(0, 2);
            x.sum(2, 2);
            x.copy(2, 0);
        });
        endsSpans("sum", x -> x.sum(0, 0));
        endsSpans("part", x -> {
            x.cord(0, 0, 0, 100);
            x.settle(0);
            due("settled between", x.span(0, 0, 0), 30);
            x.part(0, 3);
        });
        endsSpans("drop", x -> x.drop(0));
    }

    // ---- promises 23 and 24

    private static void cureNought() {
        Due.sentence("23: The fewest CORDS of a CURE: 0 (none is wanted)");
        due("kept", thirty().cure(0), 0);
        due("no cords", new CordHouse().cure(0), 0);
        due("no sums", withNumbers(1, 2).cure(0), 0);
        CordHouse x = withNumbers(10, 20);
        Writing.sum(x, 0, 0, 1);
        due("a sum of one part is aside", x.cure(0), 0);
        due("spent", slow(4).cure(0), 0);
    }

    private static void cureOne() {
        Due.sentence("23: The fewest CORDS of a CURE: [..] 1");
        CordHouse x = withNumbers(40, 10, 20);
        Writing.sum(x, 0, 0, 1, 2);
        due("one", x.cure(0), 1);
        Writing.sum(x, 0, 0, 1, 2);
        due("one sum twice", x.cure(0), 1);
        CordHouse y = new CordHouse();
        for (int c = 0; c < 60; c++) {
            y.cord(0, 0, 0, 420);
        }
        Writing.write(y, 0, 59, 7);
        Writing.sum(y, 0, 59, 57, 58);
        due("among sixty", y.cure(0), 1);
        due("the first that can", y.cured(0), 57);
    }

    private static void cureTwo() {
        Due.sentence("23: The fewest CORDS of a CURE: [..] 2");
        CordHouse x = withNumbers(40, 10, 20, 50, 10, 20);
        Writing.sum(x, 0, 0, 1, 2);
        Writing.sum(x, 0, 3, 4, 5);
        due("two sums apart", x.cure(0), 2);
        due("first", x.cured(0), 0);
        due("second", x.cured(1), 3);
    }

    private static void cureNone() {
        Due.sentence("23: NONE: none of 2 does");
        CordHouse x = withNumbers(40, 10, 20, 50, 10, 20, 60, 10, 20);
        for (int c = 0; c < 9; c += 3) {
            Writing.sum(x, 0, c, c + 1, c + 2);
            due("sums apart", x.cure(0), c < 6 ? c / 3 + 1 : NONE);
        }
    }

    private static void cureOfFullRows() {
        Due.sentence("23: NONE: none of 2 does [of sixty CORDS, forty SUMS, twelve parts]");
        CordHouse x = new CordHouse();
        for (int c = 0; c < 60; c++) {
            x.cord(0, 0, 0, 420);
        }
        for (int s = 0; s < 37; s++) {
            x.sum(0, s);
        }
        for (int s = 0; s < 3; s++) {
            Writing.write(x, 0, 59 - s, s + 1);
            x.sum(0, 59 - s);
            for (int c = 12 * s; c < 12 * s + 12; c++) {
                x.part(0, c);
            }
            due("sums apart", x.cure(0), s < 2 ? s + 1 : NONE);
            due("the first", x.cured(0), 0);
            due("the second", x.cured(1), s < 1 ? NONE : 12);
        }
        due("forty", x.count(0, 2), 40);
    }

    private static void cureRange() {
        Due.sentence("23: RANGE");
        CordHouse x = thirty();
        for (int r : NO_RECORD) {
            due("record " + r, x.cure(r), RANGE);
        }
    }

    private static void curedOfTheLatest() {
        Due.sentence("24: Of the latest cure() that was not RANGE or NONE");
        CordHouse x = withNumbers(40, 10, 20, 50, 10, 20, 60, 10, 20);
        due("no cure yet", x.cured(0), NONE);
        due("out of range ahead of all", x.cure(4), RANGE);
        due("no cure still", x.cured(0), NONE);
        Writing.sum(x, 0, 3, 4, 5);
        Writing.sum(x, 0, 6, 7, 8);
        x.cure(0);
        Writing.sum(x, 0, 0, 1, 2);
        due("none", x.cure(0), NONE);
        due("of the one ahead", x.cured(0), 3);
        due("and its second", x.cured(1), 6);
        due("range", x.cure(-1), RANGE);
        due("still of the one ahead", x.cured(0), 3);
        x.clear(0);
        due("whatever came then", x.cured(1), 6);
        due("none is wanted", x.cure(0), 0);
        due("of that there is none", x.cured(0), NONE);
        due("nor a second", x.cured(1), NONE);
    }

    private static void curedFirst() {
        Due.sentence("24: its i-th CORD (of CURES of as many the first one by its least CORD, then the next)");
        CordHouse x = withNumbers(10, 20, 40);
        Writing.sum(x, 0, 2, 1, 0);
        due("one", x.cure(0), 1);
        due("the least of three", x.cured(0), 0);
        // 5 is 9 and 1: 1 would be below 0, 9 would be 4
        CordHouse y = withNumbers(1, 9, 5);
        Writing.sum(y, 0, 2, 0, 1);
        due("one", y.cure(0), 1);
        due("the least that can", y.cured(0), 1);
        // 10 is 20 and 30, 10 is 40 and 30: a part would be below 0, so the wholes are wrong
        CordHouse z = withNumbers(10, 20, 30, 30, 10, 40);
        Writing.sum(z, 0, 0, 1, 2);
        Writing.sum(z, 0, 4, 5, 3);
        due("two", z.cure(0), 2);
        due("the least", z.cured(0), 0);
        due("then the next", z.cured(1), 4);
    }

    private static void curedNone() {
        Due.sentence("24: NONE.");
        CordHouse x = withNumbers(40, 10, 20, 50, 10, 20);
        Writing.sum(x, 0, 0, 1, 2);
        x.cure(0);
        due("the second of one", x.cured(1), NONE);
        Writing.sum(x, 0, 3, 4, 5);
        x.cure(0);
        due("the third of two", x.cured(2), NONE);
        for (int i : FAR) {
            due("i " + i, x.cured(i), NONE);
        }
    }

    private static void promises17To20() {
        sumIsNumbered();
        sumRange();
        sumFull();
        partIsCounted();
        partNoSum();
        partNoCord();
        partTheWhole();
        partAlready();
        partFull();
        dropLeft();
        dropNone();
        dropRange();
        sumAtWhole();
        sumAtKept();
        sumAtTornOrFault();
        sumAtFewParts();
        sumAtParts();
        sumAtNone();
    }

    private static void promises21To24() {
        settleFewParts();
        settleChanged();
        settleBroken();
        settleSpent();
        settleRange();
        spanAsItEnded();
        spanSides();
        spanThatIsNone();
        spanNone();
        spanNoSettle();
        cureNought();
        cureOne();
        cureTwo();
        cureNone();
        cureOfFullRows();
        cureRange();
        curedOfTheLatest();
        curedFirst();
        curedNone();
    }

    public static void main(String[] args) {
        promises17To20();
        promises21To24();
        Due.end();
    }
}

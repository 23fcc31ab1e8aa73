/** Promises 17 to 24: SUMS, SPANS and CURES. */
public final class SumsTest {
    private static final int NONE = -1;
    private static final int RANGE = -2;
    private static final int FULL = -3;
    private static final int SPENT = -4;
    private static final int[] NO_RECORD = {-1, 4, Integer.MIN_VALUE, Integer.MAX_VALUE};

    private static void due(String call, long got, long want) {
        Due.due(call, got, want);
    }

    private static CordHouse withNumbers(int... numbers) {
        CordHouse x = new CordHouse();
        for (int n : numbers) {
            Writing.cord(x, 0, 0, 0, n);
        }
        return x;
    }

    private static void spanIs(CordHouse x, String what, int c, int least, int greatest) {
        due(what + ", least of " + c, x.span(0, c, 0), least);
        due(what + ", greatest of " + c, x.span(0, c, 1), greatest);
    }

    private static void promise17() {
        CordHouse x = withNumbers(1, 2, 3);
        due("17 no cord", x.sum(0, 3), RANGE);
        due("17 cord -1", x.sum(0, -1), RANGE);
        for (int r : NO_RECORD) {
            due("17 no record", x.sum(r, 0), RANGE);
        }
        for (int s = 0; s < 40; s++) {
            due("17 to forty", x.sum(0, 2), s);
            due("17 its whole", x.sumAt(0, s, 0), 2);
            due("17 its parts", x.sumAt(0, s, 1), 0);
        }
        due("17 full", x.sum(0, 2), FULL);
        due("17 range ahead of full", x.sum(0, 3), RANGE);
        due("17 forty", x.count(0, 2), 40);
    }

    private static void promise18() {
        CordHouse x = new CordHouse();
        for (int c = 0; c < 14; c++) {
            x.cord(0, 0, 0, 100);
        }
        due("18 no sum", x.part(0, 0), RANGE);
        x.sum(0, 0);
        due("18 the whole", x.part(0, 0), RANGE);
        due("18 no cord", x.part(0, 14), RANGE);
        due("18 cord -1", x.part(0, -1), RANGE);
        for (int r : NO_RECORD) {
            due("18 no record", x.part(r, 0), RANGE);
        }
        due("18 a record without cords", x.part(1, 0), RANGE);
        for (int c = 1; c <= 12; c++) {
            due("18 to twelve", x.part(0, c), c);
            due("18 a part already", x.part(0, c), RANGE);
        }
        due("18 full", x.part(0, 13), FULL);
        due("18 range ahead of full", x.part(0, 12), RANGE);
        x.sum(0, 13);
        due("18 of the latest", x.part(0, 0), 1);
        due("18 not of the one ahead", x.sumAt(0, 0, 1), 12);
    }

    private static void promise19() {
        CordHouse x = withNumbers(1, 2, 3);
        due("19 none", x.drop(0), NONE);
        for (int r : NO_RECORD) {
            due("19 no record", x.drop(r), RANGE);
        }
        Writing.sum(x, 0, 2, 0, 1);
        Writing.sum(x, 0, 1, 0);
        due("19 one is left", x.drop(0), 1);
        due("19 the first is", x.sumAt(0, 0, 0), 2);
        due("19 the latest is gone", x.sumAt(0, 1, 0), NONE);
        due("19 parts go to the one left", x.part(0, 1), RANGE);
        due("19 none left", x.drop(0), 0);
        due("19 none more", x.drop(0), NONE);
        due("19 a new one", x.sum(0, 1), 0);
        due("19 without old parts", x.sumAt(0, 0, 1), 0);
    }

    private static void promise20() {
        CordHouse x = withNumbers(30, 10, 20, 5);
        Writing.sum(x, 0, 0, 2, 1);
        Writing.sum(x, 0, 0, 1, 2, 3);
        Writing.sum(x, 0, 0, 1);
        due("20 whole", x.sumAt(0, 0, 0), 0);
        due("20 parts", x.sumAt(0, 0, 1), 2);
        due("20 kept", x.sumAt(0, 0, 2), 1);
        due("20 not kept", x.sumAt(0, 1, 2), 0);
        due("20 one part", x.sumAt(0, 2, 2), NONE);
        due("20 first part", x.sumAt(0, 0, 10), 2);
        due("20 second part", x.sumAt(0, 0, 11), 1);
        due("20 no third", x.sumAt(0, 0, 12), NONE);
        due("20 the third of another", x.sumAt(0, 1, 12), 3);
        for (int what = 3; what < 10; what++) {
            due("20 what " + what, x.sumAt(0, 0, what), NONE);
        }
        due("20 what -1", x.sumAt(0, 0, -1), NONE);
        due("20 what most", x.sumAt(0, 0, Integer.MAX_VALUE), NONE);
        due("20 no sum", x.sumAt(0, 3, 0), NONE);
        due("20 sum -1", x.sumAt(0, -1, 0), NONE);
        for (int r : NO_RECORD) {
            due("20 no record", x.sumAt(r, 0, 0), NONE);
        }
        x.knot(0, 3, 300, 0, 0);
        due("20 fifteen", x.number(0, 3), 15);
        x.knot(0, 3, 310, 0, 0);
        due("20 a part has a fault", x.sumAt(0, 1, 2), NONE);
        due("20 one without", x.sumAt(0, 0, 2), 1);
        x.tear(0, 1, 410);
        due("20 a part is torn", x.sumAt(0, 0, 2), NONE);
        CordHouse y = withNumbers(30, 10, 20);
        Writing.sum(y, 0, 0, 1, 2);
        y.tear(0, 0, 410);
        due("20 the whole is torn", y.sumAt(0, 0, 2), NONE);
    }

    /** A whole of two CORDS: each is told from the others. */
    private static void promise21And22() {
        CordHouse x = withNumbers(345, 123, 222, 7);
        due("21 no sums", x.settle(0), 0);
        spanIs(x, "22 own", 3, 7, 7);
        Writing.sum(x, 0, 0, 1, 2);
        due("22 since a sum came", x.span(0, 3, 0), NONE);
        due("21 kept", x.settle(0), 0);
        x.tear(0, 1, 250);
        due("21 a part is told", x.settle(0), 1);
        spanIs(x, "22 told", 1, 123, 123);
        x.tear(0, 2, 250);
        due("21 two parts", x.settle(0), 1);
        spanIs(x, "22 by the other's greatest", 1, 100, 145);
        spanIs(x, "22 by the other's least", 2, 200, 245);
        x.tear(0, 0, 350);
        due("21 the whole too", x.settle(0), 1);
        spanIs(x, "22 the whole", 0, 340, 349);
        spanIs(x, "22 first", 1, 100, 149);
        spanIs(x, "22 second", 2, 200, 249);
        due("22 side 2", x.span(0, 0, 2), NONE);
        due("22 side -1", x.span(0, 0, -1), NONE);
        due("22 no cord", x.span(0, 4, 0), NONE);
        due("22 cord -1", x.span(0, -1, 0), NONE);
        for (int r : NO_RECORD) {
            due("21 no record", x.settle(r), RANGE);
            due("22 no record", x.span(r, 0, 0), NONE);
        }
        due("22 another record", x.span(1, 0, 0), NONE);
        due("21 an empty record", x.settle(1), 0);
    }

    /** OWN SPANS: of units behind tens that are lost, of FAULTS, of what stands ahead of a tear. */
    private static void promise22Own() {
        CordHouse x = withNumbers(1310, 1310, 1310, 1310);
        x.tear(0, 0, 301);
        x.tear(0, 1, 300);
        x.tear(0, 2, 240);
        x.tear(0, 3, 1);
        Writing.cord(x, 0, 0, 0, 1310);
        x.settle(0);
        spanIs(x, "22 nothing lost", 0, 1310, 1310);
        spanIs(x, "22 tens, so units", 1, 1300, 1399);
        spanIs(x, "22 hundreds", 2, 1000, 1999);
        spanIs(x, "22 all", 3, 0, 9999);
        x.knot(0, 4, 360, 1, 5);
        x.settle(0);
        spanIs(x, "22 with a level of units", 0, 1310, 1319);
        x.knot(0, 4, 310, 0, 0);
        x.knot(0, 1, 290, 0, 0);
        x.knot(0, 1, 285, 0, 0);
        x.settle(0);
        spanIs(x, "22 a fault", 4, 0, 999999);
        spanIs(x, "22 a torn one with a fault", 1, 0, 999999);
        CordHouse y = new CordHouse();
        y.cord(0, 0, 0, 100);
        y.tear(0, 0, 1);
        y.settle(0);
        spanIs(y, "22 torn, without levels", 0, 0, 0);
    }

    private static void promise21Chain() {
        // each SUM tells one CORD more in a round of its own
        CordHouse x = withNumbers(1, 10, 11, 0, 21, 0, 32);
        x.tear(0, 3, 1);
        x.tear(0, 5, 1);
        Writing.sum(x, 0, 3, 0, 1);
        Writing.sum(x, 0, 5, 3, 2);
        due("21 two rounds", x.settle(0), 2);
        spanIs(x, "22 at the end of a chain", 5, 22, 22);
        Writing.sum(x, 0, 6, 5);
        due("21 a sum of one part is aside", x.settle(0), 2);
        x.part(0, 4);
        due("21 broken", x.settle(0), NONE);
        // in the second round 5 is to be 11 + 11, and 3 is to be 11 less 11
        spanIs(x, "22 one that is none", 5, 22, 11);
        spanIs(x, "22 the whole round is done", 3, 11, 0);
        CordHouse y = withNumbers(5, 7, 8);
        Writing.sum(y, 0, 0, 1, 2);
        due("21 broken at once", y.settle(0), NONE);
        spanIs(y, "22 a whole that is none", 0, 15, 5);
        spanIs(y, "22 a part below 0", 1, 7, -3);
        spanIs(y, "22 another", 2, 8, -2);
    }

    /** a = b + step and b = a + 0 can't be: ends come nearer by step in two rounds. */
    private static CordHouse slow(int step, boolean anyNumber) {
        CordHouse x = withNumbers(0, 0, step, 0);
        for (int c = 0; c <= 1; c++) {
            if (anyNumber) {
                x.knot(0, c, 290, 0, 0);
                x.knot(0, c, 305, 0, 0);
            } else {
                x.tear(0, c, 1);
            }
        }
        Writing.cord(x, 0, 0, 0, 111);
        Writing.sum(x, 0, 0, 1, 2);
        Writing.sum(x, 0, 1, 0, 3);
        return x;
    }

    private static void promise21Spent() {
        CordHouse x = slow(1, true);
        due("21 two with faults", x.count(0, 5), 2);
        due("21 spent", x.settle(0), SPENT);
        spanIs(x, "22 as two hundred rounds leave it", 0, 100, 999899);
        spanIs(x, "22 as two hundred rounds leave it", 1, 100, 999899);
        due("23 spent is not broken", x.cure(0), 0);
        CordHouse y = slow(4, false);
        due("21 spent, in a narrower one", y.settle(0), SPENT);
        spanIs(y, "22 as it ended", 0, 400, 599);
        CordHouse z = slow(5, false);
        due("21 broken in the two hundredth", z.settle(0), NONE);
        spanIs(z, "22 as it ended", 0, 500, 499);
    }

    /** Whatever changes something of the RECORD ends what settle() told, and nothing else does. */
    private static void promise22Changes() {
        for (int i = 0; i < 18; i++) {
            CordHouse x = withNumbers(30, 10, 20);
            Writing.sum(x, 0, 0, 1, 2);
            x.settle(0);
            boolean ends = change(x, i);
            due("22 a span, change " + i, x.span(0, 0, 0), ends ? NONE : 30);
            x.settle(0);
            due("22 settled anew, change " + i, x.span(0, 0, 0) == NONE ? 1 : 0, i == 7 ? 1 : 0);
        }
    }

    private static boolean change(CordHouse x, int i) {
        switch (i) {
            case 0: x.cord(0, 0, 0, 100); return true;
            case 1: x.hang(0, 0, 0, 100); return true;
            case 2: x.knot(0, 0, 1, 0, 0); return true;
            case 3: x.untie(0, 1, 300); return true;
            case 4: x.tear(0, 1, 420); return true;
            case 5: x.tie(0, 1, 20); return true;
            case 6: x.gap(0, 14); return true;
            case 7: x.clear(0); return true;
            case 8: x.copy(1, 0); x.copy(0, 1); Writing.cord(x, 0, 0, 0, 30); return true;
            case 9: x.sum(0, 0); return true;
            case 10: x.drop(0); return true;
            case 11: x.cord(0, 0, 0, 100); x.part(0, 3); return true;
            case 12: x.gap(0, 15); return false;
            case 13: x.knot(0, 0, 0, 0, 0); x.untie(0, 0, 1); x.tear(0, 0, 421); x.tie(0, 0, 5); return false;
            case 14: x.part(0, 0); x.sum(0, 3); x.gap(0, 0); x.cord(0, 12, 0, 100); return false;
            case 15: x.cord(1, 0, 0, 100); x.copy(0, 2); x.clear(3); x.gap(1, 3); return false;
            case 16: x.cure(0); x.found(0); x.likeness(0, 0); x.number(0, 0); x.settle(1); return false;
            default: x.copy(0, 0); return false;
        }
    }

    /** The same number in KNOTS that are where they were changes nothing; elsewhere it does. */
    private static void promise22Ties() {
        CordHouse x = withNumbers(30, 10, 20);
        due("22 tie", x.tie(0, 0, 30), 30);
        x.settle(0);
        due("22 tie what it has", x.tie(0, 0, 30), 30);
        due("22 nothing changed", x.span(0, 0, 0), 30);
        x.untie(0, 0, 303);
        x.knot(0, 0, 302, 0, 0);
        x.settle(0);
        due("22 tie elsewhere", x.tie(0, 0, 30), 30);
        due("22 the last knot is elsewhere", x.span(0, 0, 0), NONE);
        x.untie(0, 0, 297);
        x.knot(0, 0, 298, 0, 0);
        x.settle(0);
        due("22 tie elsewhere again", x.tie(0, 0, 30), 30);
        due("22 the first knot is elsewhere", x.span(0, 0, 0), NONE);
    }

    /** A copy that is unlike in one thing alone ends what settle() told. */
    private static void promise22Copies() {
        for (int i = 0; i < 14; i++) {
            CordHouse x = withNumbers(30, 10, 20, 5);
            x.hang(0, 0, 0, 100);
            x.cord(0, 0, 0, 100);
            Writing.sum(x, 0, 0, 1, 2);
            x.copy(0, 1);
            differ(x, i);
            x.settle(1);
            x.copy(0, 1);
            due("22 a copy, unlike in " + i, x.span(1, 0, 0), i == 0 ? 30 : NONE);
        }
    }

    private static void differ(CordHouse x, int i) {
        switch (i) {
            case 0: break;
            case 1: x.gap(1, 16); break;
            case 2: x.drop(1); Writing.sum(x, 1, 3, 1, 2); break;
            case 3: x.part(1, 3); break;
            case 4: x.drop(1); Writing.sum(x, 1, 0, 3, 2); break;
            case 5: x.drop(1); Writing.sum(x, 1, 0, 1, 3); break;
            case 6: x.drop(1); break;
            case 7: x.tear(1, 1, 410); break;
            case 8: x.untie(1, 0, 300); break;
            case 9: x.untie(1, 0, 298); x.knot(1, 0, 297, 0, 0); break;
            case 10: last(x, 1, 0, 100); break;
            case 11: last(x, 0, 1, 100); break;
            case 12: last(x, 0, 0, 101); break;
            default: x.cord(1, 0, 0, 100); break;
        }
    }

    /** RECORD 1 made anew, its last CORD otherwise. */
    private static void last(CordHouse x, int group, int colour, int length) {
        x.clear(1);
        for (int n : new int[] {30, 10, 20, 5}) {
            Writing.cord(x, 1, 0, 0, n);
        }
        x.hang(1, 0, 0, 100);
        x.cord(1, group, colour, length);
        Writing.sum(x, 1, 0, 1, 2);
    }

    private static void promise23And24() {
        CordHouse x = withNumbers(30, 10, 20, 60, 20, 40, 7);
        due("23 no sums", x.cure(0), 0);
        Writing.sum(x, 0, 0, 1, 2);
        Writing.sum(x, 0, 3, 4, 5);
        due("23 none is wanted", x.cure(0), 0);
        due("24 none of none", x.cured(0), NONE);
        due("24 before", x.number(0, 2), 20);
        x.tie(0, 2, 50);
        x.settle(0);
        due("23 one", x.cure(0), 1);
        due("23 spans are as settle left them", x.span(0, 0, 0), 60);
        due("24 the first that can", x.cured(0), 0);
        due("24 just one", x.cured(1), NONE);
        due("24 i -1", x.cured(-1), NONE);
        x.tie(0, 5, 70);
        due("23 two", x.cure(0), 2);
        due("24 first", x.cured(0), 0);
        due("24 second", x.cured(1), 3);
        due("24 no third", x.cured(2), NONE);
        Writing.cord(x, 0, 0, 0, 1);
        Writing.cord(x, 0, 0, 0, 1);
        Writing.sum(x, 0, 6, 7, 8);
        due("23 three would be wanted", x.cure(0), NONE);
        due("24 of the latest that was not none", x.cured(1), 3);
        for (int r : NO_RECORD) {
            due("23 no record", x.cure(r), RANGE);
        }
        due("24 nor out of range", x.cured(0), 0);
        due("23 an empty record", x.cure(1), 0);
        due("24 of that", x.cured(0), NONE);
    }

    private static void promise23Shared() {
        // 10 = 4 + 5 and 10 = 4 + 7: no number of 0 mends both, one of 4 and 5 or of 4 and 7 does
        CordHouse x = withNumbers(10, 10, 4, 5, 7);
        Writing.sum(x, 0, 0, 2, 3);
        Writing.sum(x, 0, 1, 2, 4);
        due("23 one in both is not enough", x.cure(0), 2);
        due("24 by the least cord", x.cured(0), 0);
        due("24 then the next", x.cured(1), 1);
        // 5 = 9 + 1 can't be mended by a part that would be below 0, but by the whole or by 9
        CordHouse y = withNumbers(1, 9, 5);
        Writing.sum(y, 0, 2, 0, 1);
        due("23 one", y.cure(0), 1);
        due("24 not the least: it would be below 0", y.cured(0), 1);
        // one CORD that both SUMS share and that mends both
        CordHouse z = withNumbers(10, 10, 4, 5, 5);
        Writing.sum(z, 0, 0, 2, 3);
        Writing.sum(z, 0, 1, 2, 4);
        due("23 one in both", z.cure(0), 1);
        due("24 which", z.cured(0), 2);
    }

    public static void main(String[] args) {
        promise17();
        promise18();
        promise19();
        promise20();
        promise21And22();
        promise22Own();
        promise21Chain();
        promise21Spent();
        promise22Changes();
        promise22Ties();
        promise22Copies();
        promise23And24();
        promise23Shared();
        Due.end();
    }
}

/** Each sentence under 'Terms' that names an edge has a method of its own. */
public final class EdgesOfTermsTest {
    private static final int NONE = -1;
    private static final int RANGE = -2;
    private static final int FULL = -3;
    private static final int SPENT = -4;
    private static final int FAULT = 7;
    private static final int CLUSTERS = 6;

    private static void due(String call, long got, long want) {
        Due.due(call, got, want);
    }

    private static void spanIs(CordHouse x, String what, int c, int least, int greatest) {
        due(what + ", least of " + c, x.span(0, c, 0), least);
        due(what + ", greatest of " + c, x.span(0, c, 1), greatest);
    }

    /** CORDS in RECORD 0, GROUP 0, that hold numbers. */
    private static CordHouse withNumbers(int... numbers) {
        CordHouse x = new CordHouse();
        for (int n : numbers) {
            Writing.cord(x, 0, 0, 0, n);
        }
        return x;
    }

    /** A CORD of length 600 with SIMPLE KNOTS at heights. */
    private static CordHouse simpleAt(int... heights) {
        CordHouse x = new CordHouse();
        x.cord(0, 0, 0, 600);
        for (int h : heights) {
            x.knot(0, 0, h, 0, 0);
        }
        return x;
    }

    private static void calls() {
        Due.sentence("An object is used for at most 512 calls after it has been made");
        CordHouse x = new CordHouse();
        x.cord(0, 0, 0, 600);
        for (int i = 0; i < 255; i++) {
            due("knot", x.knot(0, 0, 1 + i, 1, 2 + i % 8), 1);
            due("untie", x.untie(0, 0, 1 + i), 0);
        }
        due("the 512th call", x.count(0, 0), 1);
    }

    private static void constants() {
        Due.sentence("`NONE = -1`: There is none. `RANGE = -2`: A number that can't be. `FULL = -3`: No room.");
        due("there is none", CordHouse.NONE, -1);
        due("a number that can't be", CordHouse.RANGE, -2);
        due("no room", CordHouse.FULL, -3);
    }

    // ---- RECORDS and CORDS

    private static void records() {
        Due.sentence("RECORDS 0 .. 3");
        CordHouse x = new CordHouse();
        due("record -1", x.cord(-1, 0, 0, 100), RANGE);
        due("record 4", x.cord(4, 0, 0, 100), RANGE);
        for (int r = 0; r < 4; r++) {
            due("record " + r, x.cord(r, 0, 0, 100), 0);
            due("it has one", x.count(r, 0), 1);
        }
    }

    private static void atMostSixty() {
        Due.sentence("each with CORDS numbered from 0 as they came, at most 60");
        CordHouse x = new CordHouse();
        for (int c = 0; c < 60; c++) {
            due("cord " + c, c % 2 == 0 ? x.cord(0, 0, 0, 100) : x.hang(0, c - 1, 0, 100), c);
        }
        due("one more on the main one", x.cord(0, 0, 0, 100), FULL);
        due("one more on another", x.hang(0, 0, 0, 100), FULL);
        due("sixty", x.count(0, 0), 60);
        due("another record", x.cord(1, 0, 0, 100), 0);
    }

    private static void groups() {
        Due.sentence("in a GROUP 0 .. 11");
        CordHouse x = new CordHouse();
        due("-1", x.cord(0, -1, 0, 100), RANGE);
        due("12", x.cord(0, 12, 0, 100), RANGE);
        for (int g = 0; g < 12; g++) {
            due("group " + g, x.cord(0, g, 0, 100), g);
            due("it is in it", x.about(0, g, 0), g);
        }
    }

    private static void onAnEarlierOne() {
        Due.sentence("or on an earlier CORD");
        CordHouse x = new CordHouse();
        due("without any", x.hang(0, 0, 0, 100), RANGE);
        x.cord(0, 0, 0, 100);
        due("on itself", x.hang(0, 1, 0, 100), RANGE);
        due("on -1", x.hang(0, -1, 0, 100), RANGE);
        due("on one of another record", x.hang(1, 0, 0, 100), RANGE);
        due("on the earlier one", x.hang(0, 0, 0, 100), 1);
        due("on the latest", x.hang(0, 1, 0, 100), 2);
    }

    private static void belowThree() {
        Due.sentence("(below at most three others)");
        CordHouse x = new CordHouse();
        x.cord(0, 0, 0, 100);
        due("below one", x.hang(0, 0, 0, 100), 1);
        due("below two", x.hang(0, 1, 0, 100), 2);
        due("below three", x.hang(0, 2, 0, 100), 3);
        due("below four", x.hang(0, 3, 0, 100), FULL);
        due("four there are", x.count(0, 0), 4);
        due("below three again", x.hang(0, 2, 0, 100), 4);
        due("below four again", x.hang(0, 4, 0, 100), FULL);
    }

    private static void colours() {
        Due.sentence("it has a colour 0 .. 23");
        CordHouse x = new CordHouse();
        due("-1", x.cord(0, 0, -1, 100), RANGE);
        due("24", x.cord(0, 0, 24, 100), RANGE);
        due("0", x.cord(0, 0, 0, 100), 0);
        due("23", x.cord(0, 0, 23, 100), 1);
        due("-1, hung", x.hang(0, 0, -1, 100), RANGE);
        due("24, hung", x.hang(0, 0, 24, 100), RANGE);
        due("0, hung", x.hang(0, 0, 0, 100), 2);
        due("23, hung", x.hang(0, 0, 23, 100), 3);
        due("is 23", x.about(0, 3, 2), 23);
    }

    private static void lengths() {
        Due.sentence("and a length 10 .. 600");
        CordHouse x = new CordHouse();
        due("9", x.cord(0, 0, 0, 9), RANGE);
        due("601", x.cord(0, 0, 0, 601), RANGE);
        due("10", x.cord(0, 0, 0, 10), 0);
        due("600", x.cord(0, 0, 0, 600), 1);
        due("9, hung", x.hang(0, 0, 0, 9), RANGE);
        due("601, hung", x.hang(0, 0, 0, 601), RANGE);
        due("10, hung", x.hang(0, 0, 0, 10), 2);
        due("600, hung: longer than what it hangs on", x.hang(0, 0, 0, 600), 3);
        due("is 600", x.about(0, 3, 3), 600);
    }

    // ---- KNOTS and tears

    private static void thirtyKnots() {
        Due.sentence("KNOTS, at most 30 a CORD");
        CordHouse x = simpleAt();
        for (int k = 1; k <= 30; k++) {
            due("knot " + k, x.knot(0, 0, 601 - k * 20, 0, 0), k);
        }
        due("simple", x.knot(0, 0, 2, 0, 0), FULL);
        due("long", x.knot(0, 0, 2, 1, 2), FULL);
        due("eight", x.knot(0, 0, 2, 2, 0), FULL);
        due("thirty", x.about(0, 0, 4), 30);
        x.cord(0, 0, 0, 600);
        due("another cord", x.knot(0, 1, 2, 0, 0), 1);
        due("one is untied", x.untie(0, 0, 581), 29);
        due("room for one", x.knot(0, 0, 2, 0, 0), 30);
    }

    private static void heights() {
        Due.sentence("at a height 1 .. its length");
        for (int length = 10; length <= 600; length += 590) {
            CordHouse x = new CordHouse();
            x.cord(0, 0, 0, length);
            due("at 0", x.knot(0, 0, 0, 0, 0), RANGE);
            due("at -1", x.knot(0, 0, -1, 0, 0), RANGE);
            due("above " + length, x.knot(0, 0, length + 1, 0, 0), RANGE);
            due("at 1", x.knot(0, 0, 1, 0, 0), 1);
            due("at " + length, x.knot(0, 0, length, 1, 9), 2);
            due("the first", x.knotAt(0, 0, 0, 0), 1);
            due("the last", x.knotAt(0, 0, 1, 0), length);
        }
    }

    private static void noTwoAtOne() {
        Due.sentence("no two at one");
        CordHouse x = simpleAt(5, 600);
        for (int sort = 0; sort <= 2; sort++) {
            due("at the first", x.knot(0, 0, 5, sort, sort == 1 ? 4 : 0), RANGE);
            due("at the last", x.knot(0, 0, 600, sort, sort == 1 ? 4 : 0), RANGE);
        }
        due("ahead", x.knot(0, 0, 4, 0, 0), 3);
        due("behind", x.knot(0, 0, 6, 0, 0), 4);
        x.cord(0, 0, 0, 600);
        due("on another cord", x.knot(0, 1, 5, 0, 0), 1);
    }

    private static void turns() {
        Due.sentence("LONG (2 .. 9 turns)");
        CordHouse x = simpleAt();
        due("1", x.knot(0, 0, 100, 1, 1), RANGE);
        due("10", x.knot(0, 0, 100, 1, 10), RANGE);
        due("2", x.knot(0, 0, 100, 1, 2), 1);
        due("reads 2", x.number(0, 0), 2);
        x.untie(0, 0, 100);
        due("9", x.knot(0, 0, 100, 1, 9), 1);
        due("reads 9", x.number(0, 0), 9);
    }

    private static void eightIsOne() {
        Due.sentence("or EIGHT (1)");
        CordHouse x = simpleAt();
        due("an eight", x.knot(0, 0, 100, 2, 0), 1);
        due("reads 1", x.number(0, 0), 1);
    }

    private static void tornOff() {
        Due.sentence("KNOTS there and below (heights are counted down from where it hangs) are gone");
        CordHouse x = simpleAt(99, 100, 101, 600);
        due("left", x.tear(0, 0, 100), 1);
        due("the one ahead", x.knotAt(0, 0, 0, 0), 99);
        due("no other", x.knotAt(0, 0, 1, 0), NONE);
        CordHouse y = simpleAt(99, 100, 101, 600);
        due("behind all", y.tear(0, 0, 601), RANGE);
        due("at the last", y.tear(0, 0, 600), 3);
        due("one behind the last left", y.tear(0, 0, 102), 3);
        due("at the first", y.tear(0, 0, 99), 0);
    }

    private static void noneCanBeTiedThere() {
        Due.sentence("and none can be tied there");
        CordHouse x = simpleAt();
        x.tear(0, 0, 100);
        due("at the tear", x.knot(0, 0, 100, 0, 0), RANGE);
        due("one below", x.knot(0, 0, 101, 0, 0), RANGE);
        due("at its length", x.knot(0, 0, 600, 0, 0), RANGE);
        due("one ahead", x.knot(0, 0, 99, 0, 0), 1);
        CordHouse y = simpleAt();
        y.tear(0, 0, 1);
        due("torn where it hangs", y.knot(0, 0, 1, 0, 0), RANGE);
    }

    // ---- CLUSTERS

    private static void fourBehind() {
        Due.sentence("SIMPLE KNOTS one behind the other, each at most 4 behind the one ahead");
        due("4", simpleAt(100, 104).about(0, 0, CLUSTERS), 1);
        due("5", simpleAt(100, 105).about(0, 0, CLUSTERS), 2);
        due("4 and 4: the one ahead, not the first", simpleAt(100, 104, 108).about(0, 0, CLUSTERS), 1);
        due("4 and 5", simpleAt(100, 104, 109).about(0, 0, CLUSTERS), 2);
        due("at 1 and at 600", simpleAt(1, 5, 596, 600).about(0, 0, CLUSTERS), 2);
        due("none", simpleAt().about(0, 0, CLUSTERS), 0);
    }

    private static void longByItself() {
        Due.sentence("a LONG and an EIGHT each by itself");
        CordHouse x = simpleAt();
        x.knot(0, 0, 100, 1, 3);
        x.knot(0, 0, 101, 1, 3);
        due("two long ones", x.about(0, 0, CLUSTERS), 2);
        x.knot(0, 0, 102, 2, 0);
        x.knot(0, 0, 103, 2, 0);
        due("two eights", x.about(0, 0, CLUSTERS), 4);
        x.knot(0, 0, 99, 0, 0);
        x.knot(0, 0, 104, 0, 0);
        due("a simple one at each end", x.about(0, 0, CLUSTERS), 6);
        CordHouse y = simpleAt(100, 102);
        y.knot(0, 0, 101, 2, 0);
        due("an eight between two simple ones", y.about(0, 0, CLUSTERS), 3);
    }

    private static void placeCut() {
        Due.sentence("A CLUSTER's PLACE: half of the sum of its first and last heights, cut");
        due("one", simpleAt(7).level(0, 0, 0), 7);
        due("even", simpleAt(100, 104).level(0, 0, 0), 102);
        due("odd, cut", simpleAt(100, 103).level(0, 0, 0), 101);
        due("the first and the last alone", simpleAt(100, 101, 102, 103, 107).level(0, 0, 0), 103);
        due("at 1", simpleAt(1, 2).level(0, 0, 0), 1);
        due("at 600", simpleAt(599, 600).level(0, 0, 0), 599);
    }

    private static void worths() {
        Due.sentence("its worth: how many KNOTS, turns, 1");
        CordHouse x = simpleAt(100, 101, 102, 103, 104, 105, 106, 107, 108);
        due("nine knots", x.number(0, 0), 90);
        x.knot(0, 0, 200, 1, 9);
        due("nine turns", x.number(0, 0), 99);
        x.untie(0, 0, 200);
        x.knot(0, 0, 200, 2, 0);
        due("an eight", x.number(0, 0), 91);
    }

    // ---- LEVELS

    private static void gapBehind() {
        Due.sentence("one that is more than its GAP (1 .. 100; 15 at first) behind the one ahead begins a new LEVEL");
        due("15", simpleAt(100, 115).levels(0), 1);
        due("16", simpleAt(100, 116).levels(0), 2);
        due("the one ahead, not the first", simpleAt(100, 115, 130, 145).levels(0), 1);
        CordHouse x = simpleAt(100, 115, 131);
        due("last of the first", x.level(0, 0, 1), 115);
        due("first of the second", x.level(0, 1, 0), 131);
        CordHouse least = simpleAt(100);
        least.cord(0, 0, 0, 600);
        least.knot(0, 1, 101, 0, 0);
        least.gap(0, 1);
        due("gap 1, 1 behind", least.levels(0), 1);
        least.untie(0, 1, 101);
        least.knot(0, 1, 102, 0, 0);
        due("gap 1, 2 behind", least.levels(0), 2);
        CordHouse most = simpleAt(100, 200);
        most.gap(0, 100);
        due("gap 100, 100 behind", most.levels(0), 1);
        most.untie(0, 0, 200);
        most.knot(0, 0, 201, 0, 0);
        due("gap 100, 101 behind", most.levels(0), 2);
    }

    private static void allPlaces() {
        Due.sentence("LEVELS of a RECORD: all CLUSTERS' PLACES");
        CordHouse x = simpleAt(100);
        x.hang(0, 0, 0, 600);
        x.knot(0, 1, 115, 0, 0);
        x.cord(0, 11, 0, 600);
        x.knot(0, 2, 130, 0, 0);
        x.knot(0, 2, 1, 0, 0);
        x.knot(0, 2, 600, 0, 0);
        x.cord(1, 0, 0, 600);
        x.knot(1, 0, 300, 0, 0);
        due("of all its cords", x.levels(0), 3);
        due("the first", x.level(0, 0, 1), 1);
        due("three cords make one", x.level(0, 1, 3), 3);
        due("to the last of them", x.level(0, 1, 1), 130);
        due("the last", x.level(0, 2, 0), 600);
        x.tear(0, 2, 131);
        due("what is torn off is none", x.levels(0), 2);
    }

    private static void unitsOrTens() {
        Due.sentence("The last LEVEL is that of units, if a LONG or an EIGHT is in some LEVEL; else of tens");
        CordHouse x = simpleAt(100, 200);
        due("else tens", x.level(0, 1, 2), 10);
        x.cord(0, 0, 0, 600);
        x.knot(0, 1, 200, 1, 5);
        due("a long in the last", x.level(0, 1, 2), 1);
        x.untie(0, 1, 200);
        x.knot(0, 1, 100, 2, 0);
        due("an eight in the first", x.level(0, 1, 2), 1);
        x.tear(0, 1, 100);
        due("it is torn off", x.level(0, 1, 2), 10);
    }

    private static void tenTimes() {
        Due.sentence("each one ahead counts ten times as much");
        CordHouse x = simpleAt(100, 200, 300, 400, 500);
        for (int l = 0, counts = 100000; l < 5; l++, counts /= 10) {
            due("of tens, level " + l, x.level(0, l, 2), counts);
        }
        x.knot(0, 0, 600, 2, 0);
        for (int l = 0, counts = 100000; l < 6; l++, counts /= 10) {
            due("of units, level " + l, x.level(0, l, 2), counts);
        }
    }

    private static void sixDigits() {
        Due.sentence("With more than 6 digits so (units too) the RECORD has no LEVELS");
        CordHouse x = simpleAt(100, 200, 300, 400, 500);
        due("five of tens: six digits", x.levels(0), 5);
        x.knot(0, 0, 550, 0, 0);
        due("six of tens: seven digits", x.levels(0), NONE);
        due("no first place", x.level(0, 0, 0), NONE);
        x.untie(0, 0, 550);
        x.knot(0, 0, 550, 1, 2);
        due("six with units", x.levels(0), 6);
        x.knot(0, 0, 600, 0, 0);
        due("seven with units", x.levels(0), NONE);
        due("each has a fault", x.about(0, 0, FAULT), 1);
        x.gap(0, 50);
        due("by a wider gap five", x.levels(0), 5);
    }

    private static void noCluster() {
        Due.sentence("so with no CLUSTER");
        CordHouse x = simpleAt(100);
        due("one", x.levels(0), 1);
        x.untie(0, 0, 100);
        due("none", x.levels(0), NONE);
        due("an empty record", x.levels(1), NONE);
    }

    // ---- FAULTS and numbers

    private static void noLevelsIsAFault() {
        Due.sentence("1 no LEVELS");
        CordHouse x = simpleAt(100, 150, 200, 250, 300, 350);
        x.cord(0, 0, 0, 600);
        due("with knots", x.about(0, 0, FAULT), 1);
        due("without knots, but the record has clusters", x.about(0, 1, FAULT), 1);
    }

    private static void noClustersNoFault() {
        Due.sentence("(but a CORD without KNOTS of a RECORD without CLUSTERS has none: its number is 0)");
        CordHouse x = simpleAt();
        due("no fault", x.about(0, 0, FAULT), 0);
        due("its number", x.number(0, 0), 0);
        x.settle(0);
        spanIs(x, "its number alone", 0, 0, 0);
        x.tear(0, 0, 1);
        due("torn, no fault", x.about(0, 0, FAULT), 0);
        due("torn, its number", x.number(0, 0), 0);
        CordHouse y = simpleAt(10, 30, 50, 70, 90, 110);
        y.settle(0);
        spanIs(y, "with knots", 0, 0, 999999);
        y.tear(0, 0, 10);
        due("all knots are torn off", y.about(0, 0, FAULT), 0);
        CordHouse z = withNumbers(11, 0);
        z.tear(0, 1, 1);
        z.settle(0);
        spanIs(z, "two levels are lost", 1, 0, 99);
        z.untie(0, 0, 300);
        z.untie(0, 0, 360);
        z.settle(0);
        spanIs(z, "no level is there to be lost", 1, 0, 0);
    }

    private static void moreThanNine() {
        Due.sentence("2 a SIMPLE CLUSTER of more than 9");
        CordHouse x = simpleAt(100, 104, 108, 112, 116, 120, 124, 128, 132);
        due("9", x.about(0, 0, FAULT), 0);
        x.knot(0, 0, 136, 0, 0);
        due("10", x.about(0, 0, FAULT), 2);
        x.untie(0, 0, 116);
        due("9 in two of 4 and 5, which are 16 and more apart", x.about(0, 0, FAULT), 0);
        due("read so", x.number(0, 0), 450);
    }

    private static void twoInOne() {
        Due.sentence("3 two CLUSTERS in one LEVEL");
        due("15 apart", simpleAt(100, 115).about(0, 0, FAULT), 3);
        due("16 apart", simpleAt(100, 116).about(0, 0, FAULT), 0);
        CordHouse x = simpleAt(100, 120);
        due("20 apart", x.about(0, 0, FAULT), 0);
        x.cord(0, 0, 0, 600);
        x.knot(0, 1, 110, 0, 0);
        due("one of another cord between", x.about(0, 0, FAULT), 3);
        due("that has one alone", x.about(0, 1, FAULT), 0);
        due("and one behind them", simpleAt(100, 115, 200).about(0, 0, FAULT), 3);
        due("and one ahead of them", simpleAt(50, 100, 115).about(0, 0, FAULT), 3);
    }

    private static void notInUnits() {
        Due.sentence("4 a LONG or EIGHT not in the level of units, or a SIMPLE CLUSTER in it");
        for (int sort = 1; sort <= 2; sort++) {
            CordHouse x = simpleAt();
            x.knot(0, 0, 100, sort, sort == 1 ? 9 : 0);
            due("in units", x.about(0, 0, FAULT), 0);
            x.cord(0, 0, 0, 600);
            x.knot(0, 1, 116, sort, sort == 1 ? 9 : 0);
            due("now in tens", x.about(0, 0, FAULT), 4);
            due("the other in units", x.about(0, 1, FAULT), 0);
            x.cord(0, 0, 0, 600);
            x.knot(0, 2, 99, 0, 0);
            due("a simple one in tens", x.about(0, 2, FAULT), 0);
            x.untie(0, 2, 99);
            x.knot(0, 2, 101, 0, 0);
            due("one that makes both levels one", x.about(0, 2, FAULT), 4);
            due("now in units again", x.about(0, 0, FAULT), 0);
        }
        CordHouse y = simpleAt(100);
        y.knot(0, 0, 200, 0, 0);
        due("no long in any level: none of units", y.about(0, 0, FAULT), 0);
    }

    private static void theFirstOfThese() {
        Due.sentence("A CORD's FAULT, the first of these");
        CordHouse x = simpleAt(100, 101, 102, 103, 104, 105, 106, 107, 108, 109);
        x.knot(0, 0, 112, 1, 5);
        due("2, 3 and 4", x.about(0, 0, FAULT), 2);
        x.untie(0, 0, 109);
        due("3 and 4", x.about(0, 0, FAULT), 3);
        x.untie(0, 0, 112);
        x.cord(0, 0, 0, 600);
        x.knot(0, 1, 112, 1, 5);
        due("4", x.about(0, 0, FAULT), 4);
        x.knot(0, 0, 109, 0, 0);
        x.knot(0, 0, 112, 1, 5);
        for (int h = 200; h <= 400; h += 40) {
            x.knot(0, 1, h, 0, 0);
        }
        due("1, 2, 3 and 4", x.about(0, 0, FAULT), 1);
    }

    private static void noughts() {
        Due.sentence("Its number: the sum of worths times what the LEVELS count (0 where it has none)");
        CordHouse x = withNumbers(111111, 100001, 20300, 0);
        due("the first and the last", x.number(0, 1), 100001);
        due("two between", x.number(0, 2), 20300);
        due("nowhere", x.number(0, 3), 0);
        CordHouse y = withNumbers(111110, 500000);
        due("of tens, the greatest place", y.number(0, 1), 500000);
    }

    // ---- what is LOST

    private static void lostAtTheLastPlace() {
        Due.sentence("the digits of a LEVEL are LOST, if the LEVEL's last PLACE is not ahead of the tear");
        CordHouse x = new CordHouse();
        x.cord(0, 0, 0, 600);
        x.cord(0, 0, 0, 600);
        x.knot(0, 0, 100, 0, 0);
        x.knot(0, 1, 110, 0, 0);
        x.knot(0, 1, 200, 1, 5);
        x.tear(0, 0, 111);
        due("the last place is one ahead", x.number(0, 0), 10);
        x.tear(0, 0, 110);
        due("the last place is there", x.number(0, 0), 0);
        due("though its knot is left", x.about(0, 0, 4), 1);
        x.settle(0);
        spanIs(x, "both are lost", 0, 0, 99);
    }

    private static void unitsBehindTens() {
        Due.sentence("of units, where the last LEVEL is of tens: if that is");
        CordHouse x = withNumbers(210, 210);
        x.tear(0, 0, 301);
        x.settle(0);
        spanIs(x, "tens are not lost, so units are not", 0, 210, 210);
        x.tear(0, 0, 300);
        x.settle(0);
        spanIs(x, "tens are lost, so units are", 0, 200, 299);
        x.knot(0, 1, 360, 2, 0);
        x.tear(0, 1, 360);
        x.settle(0);
        spanIs(x, "the eight is torn off, units are of no level", 1, 210, 210);
        Writing.cord(x, 0, 0, 0, 1);
        x.settle(0);
        spanIs(x, "a level of units that is lost", 1, 210, 219);
    }

    private static void ninesInAll() {
        Due.sentence("Its OWN SPAN is from its number (without them) to it and 9s in all that are lost");
        CordHouse x = withNumbers(111111, 222222);
        int[] tears = {361, 360, 300, 240, 180, 120, 60, 1};
        int[] least = {222222, 222220, 222200, 222000, 220000, 200000, 0, 0};
        int[] greatest = {222222, 222229, 222299, 222999, 229999, 299999, 999999, 999999};
        for (int i = 0; i < tears.length; i++) {
            x.tear(0, 1, tears[i]);
            x.settle(0);
            spanIs(x, "torn at " + tears[i], 1, least[i], greatest[i]);
        }
        CordHouse y = withNumbers(111110, 0);
        y.tear(0, 1, 1);
        y.settle(0);
        spanIs(y, "five levels and units are lost", 1, 0, 999999);
    }

    private static void numberAlone() {
        Due.sentence("that of another one its number alone");
        CordHouse x = withNumbers(111111, 999300, 0);
        x.settle(0);
        spanIs(x, "great", 1, 999300, 999300);
        spanIs(x, "nothing", 2, 0, 0);
    }

    private static void faultSpan() {
        Due.sentence("of one with a FAULT 0 .. 999999");
        CordHouse x = withNumbers(5);
        x.knot(0, 0, 100, 1, 2);
        x.cord(0, 0, 0, 100);
        x.settle(0);
        spanIs(x, "a fault", 0, 0, 999999);
        spanIs(x, "none", 1, 0, 0);
        x.tear(0, 0, 361);
        x.settle(0);
        spanIs(x, "torn, with a fault", 0, 0, 999999);
        CordHouse y = simpleAt(10, 30, 50, 70, 90, 110);
        y.cord(0, 0, 0, 100);
        y.settle(0);
        spanIs(y, "no levels, no knots", 1, 0, 999999);
    }

    // ---- SUMS and rounds

    private static void fortySums() {
        Due.sentence("SUMS of a RECORD, at most 40");
        CordHouse x = withNumbers(1);
        for (int s = 0; s < 40; s++) {
            due("sum " + s, x.sum(0, 0), s);
        }
        due("one more", x.sum(0, 0), FULL);
        due("forty", x.count(0, 2), 40);
        Writing.cord(x, 1, 0, 0, 1);
        due("another record", x.sum(1, 0), 0);
        due("one is dropped", x.drop(0), 39);
        due("room for one", x.sum(0, 0), 39);
    }

    private static void twoToTwelve() {
        Due.sentence("a CORD is 2 .. 12 others together");
        CordHouse x = new CordHouse();
        for (int c = 0; c < 14; c++) {
            Writing.cord(x, 0, 0, 0, c == 0 ? 12 : c == 13 ? 0 : 1);
        }
        x.sum(0, 0);
        due("none yet", x.sumAt(0, 0, 2), NONE);
        due("no part is aside", x.settle(0), 0);
        x.part(0, 1);
        due("one", x.sumAt(0, 0, 2), NONE);
        due("one part is aside", x.settle(0), 0);
        x.part(0, 2);
        due("two", x.sumAt(0, 0, 2), 0);
        due("two are not", x.settle(0), NONE);
        for (int c = 3; c <= 12; c++) {
            due("part " + c, x.part(0, c), c);
        }
        due("twelve keep it", x.sumAt(0, 0, 2), 1);
        due("twelve", x.settle(0), 0);
        due("thirteen", x.part(0, 13), FULL);
    }

    private static void unlikeOnes() {
        Due.sentence("(unlike ones, none itself)");
        CordHouse x = withNumbers(1, 2, 3);
        x.sum(0, 0);
        due("itself", x.part(0, 0), RANGE);
        due("one", x.part(0, 1), 1);
        due("itself, still", x.part(0, 0), RANGE);
        due("the same", x.part(0, 1), RANGE);
        due("another", x.part(0, 2), 2);
        due("the same again", x.part(0, 1), RANGE);
        due("two parts", x.sumAt(0, 0, 1), 2);
        x.sum(0, 1);
        due("a part of two sums", x.part(0, 2), 1);
        due("the whole of one in another", x.part(0, 0), 2);
    }

    private static void ownAtFirst() {
        Due.sentence("SPANS: at first the OWN ones");
        CordHouse x = withNumbers(230, 7, 0, 111);
        x.tear(0, 0, 300);
        x.knot(0, 1, 375, 0, 0);
        due("no sum, no round", x.settle(0), 0);
        spanIs(x, "torn", 0, 200, 299);
        spanIs(x, "with a fault", 1, 0, 999999);
        spanIs(x, "nothing", 2, 0, 0);
        spanIs(x, "whole", 3, 111, 111);
        Writing.sum(x, 0, 0, 2, 3, 1);
        due("closer", x.settle(0), 1);
        spanIs(x, "closer", 1, 89, 188);
        x.drop(0);
        due("its own again", x.settle(0), 0);
        spanIs(x, "its own again", 1, 0, 999999);
    }

    /** CORD c + 1 is CORD c and one more, for forty SUMS, given by rising or by falling CORDS. */
    private static CordHouse chain(boolean rising) {
        CordHouse x = new CordHouse();
        for (int c = 0; c <= 40; c++) {
            x.cord(0, 0, 0, 420);
        }
        Writing.write(x, 0, 0, 1);
        Writing.cord(x, 0, 0, 0, 1);
        Writing.cord(x, 0, 0, 0, 11);
        for (int c = 1; c <= 40; c++) {
            x.tear(0, c, 1);
        }
        for (int s = 0; s < 40; s++) {
            int c = rising ? s : 39 - s;
            Writing.sum(x, 0, c + 1, c, 41);
        }
        return x;
    }

    private static void atOnce() {
        Due.sentence("In a round all are made closer at once, each by what all were behind the round ahead");
        for (int i = 0; i < 2; i++) {
            CordHouse x = chain(i == 0);
            due("one more is told in each of forty rounds", x.settle(0), 40);
            spanIs(x, "the last", 40, 41, 41);
            spanIs(x, "the first", 1, 2, 2);
        }
    }

    private static void wholeFromParts() {
        Due.sentence("the whole from the sum of the parts' least to that of their greatest");
        CordHouse x = withNumbers(111111, 340, 250, 17, 0);
        x.tear(0, 1, 300);
        x.tear(0, 2, 240);
        x.tear(0, 4, 1);
        Writing.sum(x, 0, 4, 1, 2, 3);
        due("one round", x.settle(0), 1);
        // 300 .. 399, 0 .. 999 and 17
        spanIs(x, "the whole", 4, 317, 1415);
    }

    private static void partFromWhole() {
        Due.sentence("a part from the whole's least without the others' greatest to the whole's greatest without the others' least");
        CordHouse x = withNumbers(111111, 2340, 250, 17, 0);
        x.tear(0, 1, 300);
        x.tear(0, 2, 300);
        x.tear(0, 4, 1);
        Writing.sum(x, 0, 1, 2, 3, 4);
        due("one round", x.settle(0), 1);
        // 2300 .. 2399 without 200 .. 299 and 17
        spanIs(x, "a part", 4, 1984, 2182);
        spanIs(x, "another, no closer", 2, 200, 299);
        spanIs(x, "the whole, no closer", 1, 2300, 2399);
    }

    private static void settled() {
        Due.sentence("Rounds are done until one changes nothing (SETTLED)");
        CordHouse x = withNumbers(30, 10, 20);
        due("no sum", x.settle(0), 0);
        Writing.sum(x, 0, 0, 1, 2);
        due("kept", x.settle(0), 0);
        x.tear(0, 1, 1);
        due("one", x.settle(0), 1);
        due("an empty record", x.settle(1), 0);
    }

    private static void broken() {
        Due.sentence("some SPAN is none (BROKEN, behind the whole round)");
        CordHouse x = withNumbers(30, 10, 21, 0, 111);
        x.tear(0, 3, 1);
        Writing.sum(x, 0, 0, 1, 2);
        Writing.sum(x, 0, 3, 1, 2);
        due("broken by the first", x.settle(0), NONE);
        spanIs(x, "a whole that is none", 0, 31, 30);
        spanIs(x, "a part that is none", 1, 10, 9);
        spanIs(x, "the sum behind it is done", 3, 31, 31);
        // CORD 0 is to be 30 and to be 31: it is none before any other one is
        CordHouse first = withNumbers(0, 10, 20, 21, 111);
        first.tear(0, 0, 1);
        Writing.sum(first, 0, 0, 1, 2);
        Writing.sum(first, 0, 0, 1, 3);
        due("broken in the first of all cords", first.settle(0), NONE);
        spanIs(first, "it alone", 0, 31, 30);
        spanIs(first, "no round is done behind it", 1, 10, 10);
        CordHouse y = withNumbers(30, 10, 20);
        y.tear(0, 1, 1);
        Writing.sum(y, 0, 0, 1, 2);
        due("one number is not none", y.settle(0), 1);
        spanIs(y, "one number", 1, 10, 10);
    }

    /** 0 is 1 and a step, 1 is 0 and nothing: each two rounds the ends of 0 .. 999 come nearer by a step. */
    private static CordHouse slow(int step) {
        CordHouse x = withNumbers(0, 0, step, 0, 111);
        x.tear(0, 0, 1);
        x.tear(0, 1, 1);
        Writing.sum(x, 0, 0, 1, 2);
        Writing.sum(x, 0, 1, 0, 3);
        return x;
    }

    private static void spent() {
        Due.sentence("or 200 are done (SPENT)");
        CordHouse x = slow(4);
        due("not broken yet", x.settle(0), SPENT);
        spanIs(x, "by 200 rounds", 0, 400, 599);
        CordHouse y = slow(5);
        due("broken by the 200th", y.settle(0), NONE);
        spanIs(y, "by 200 rounds", 0, 500, 499);
    }

    private static void cures() {
        Due.sentence("A CURE: some CORDS that, their OWN SPANS taken for 0 .. 999999, let the rounds not be BROKEN");
        CordHouse x = withNumbers(111111, 0, 999300, 699, 0);
        Writing.sum(x, 0, 1, 2, 3, 4);
        due("999999 can be", x.cure(0), 1);
        due("the whole", x.cured(0), 1);
        x.tie(0, 4, 1);
        due("1000000 can't, nor a part below 0", x.cure(0), 2);
        due("the whole", x.cured(0), 1);
        due("and the first part", x.cured(1), 2);
        CordHouse least = withNumbers(5, 10, 10);
        Writing.sum(least, 0, 2, 0, 1);
        due("0 can be", least.cure(0), 1);
        due("the first part", least.cured(0), 0);
        CordHouse less = withNumbers(5, 11, 10);
        Writing.sum(less, 0, 2, 0, 1);
        due("-1 can't", less.cure(0), 1);
        due("the second part", less.cured(0), 1);
        due("spent is not broken", slow(4).cure(0), 0);
        due("broken by the 200th is", slow(5).cure(0), 1);
    }

    // ---- GROUPINGS

    /** A CORD in each GROUP, by rising GROUPS. */
    private static CordHouse oneEach(int... numbers) {
        CordHouse x = new CordHouse();
        for (int g = 0; g < numbers.length; g++) {
            Writing.cord(x, 0, g, 0, numbers[g]);
        }
        return x;
    }

    private static void twoOrMoreOthers() {
        Due.sentence("a GROUP g and a set of 2 or more others");
        due("one other", oneEach(3, 3).found(0), 0);
        due("one alone", oneEach(3).found(0), 0);
        CordHouse x = oneEach(3, 1, 2);
        due("two others", x.found(0), 1);
        due("not itself", x.grouping(0, 1), 6);
        due("itself is no other one, though it would do", oneEach(3, 0).found(0), 0);
        CordHouse all = oneEach(2, 3, 4, 5, 6, 7, 8, 9, 20, 30, 40, 134);
        due("all eleven others", all.found(0) > 0 ? all.grouping(all.found(0) - 1, 1) : NONE, 2047);
    }

    private static void asManyCords() {
        Due.sentence("all with as many CORDS");
        CordHouse x = oneEach(3, 1, 2);
        x.cord(0, 2, 0, 100);
        due("one of the set has one more", x.found(0), 0);
        x.cord(0, 1, 0, 100);
        due("g has one less", x.found(0), 0);
        x.cord(0, 0, 0, 100);
        due("as many", x.found(0), 1);
    }

    private static void onTheMainOne() {
        Due.sentence("(on the main one, 1 or more");
        CordHouse x = oneEach(3, 1, 2);
        x.hang(0, 1, 0, 420);
        Writing.write(x, 0, 3, 5);
        due("one that hangs on another is none of them", x.found(0), 1);
        due("groups without cords are in no set", x.grouping(0, 1), 6);
        due("an empty record", x.found(1), 0);
    }

    private static void byRisingNumbers() {
        Due.sentence("by rising numbers)");
        CordHouse x = new CordHouse();
        int[] groups = {2, 0, 1, 1, 2, 0};
        int[] numbers = {2, 3, 1, 40, 10, 50};
        for (int i = 0; i < groups.length; i++) {
            Writing.cord(x, 0, groups[i], 0, numbers[i]);
        }
        due("3 is 1 and 2, 50 is 40 and 10", x.found(0), 1);
        CordHouse y = new CordHouse();
        int[] other = {2, 3, 40, 1, 10, 50};
        for (int i = 0; i < groups.length; i++) {
            Writing.cord(y, 0, groups[i], 0, other[i]);
        }
        due("3 is not 40 and 2", y.found(0), 0);
    }

    private static void noneTorn() {
        Due.sentence("none TORN");
        for (int c = 0; c < 3; c++) {
            CordHouse x = oneEach(3, 1, 2);
            x.tear(0, c, 400);
            due("its number is whole", x.number(0, c), c == 0 ? 3 : c);
            due("torn: " + c, x.found(0), 0);
        }
        CordHouse y = oneEach(3, 1, 2, 0);
        y.tear(0, 3, 420);
        due("torn, elsewhere", y.found(0), 1);
        y.tear(0, 1, 420);
        due("torn, here and elsewhere", y.found(0), 0);
    }

    private static void noneWithAFault() {
        Due.sentence("or with a FAULT");
        for (int c = 0; c < 3; c++) {
            CordHouse x = oneEach(3, 1, 2);
            x.knot(0, c, 375, 0, 0);
            due("a fault", x.about(0, c, FAULT), 3);
            due("a fault: " + c, x.found(0), 0);
        }
        CordHouse y = oneEach(3, 1, 2, 0);
        y.knot(0, 3, 360, 0, 0);
        due("a fault, elsewhere", y.found(0), 1);
    }

    private static void forEach() {
        Due.sentence("the i-th of g is the sum of the i-th of the others, for each i");
        for (int wrong = 0; wrong < 3; wrong++) {
            CordHouse x = new CordHouse();
            for (int i = 0; i < 3; i++) {
                Writing.cord(x, 0, 0, 0, i == wrong ? 33 : 32);
                Writing.cord(x, 0, 1, 0, 11);
                Writing.cord(x, 0, 2, 0, 21);
            }
            due("all but one", x.found(0), 0);
            x.tie(0, 3 * wrong, 32);
            due("all", x.found(0), 1);
        }
    }

    private static void someAboveNought() {
        Due.sentence("and some number of g is above 0");
        CordHouse x = oneEach(0, 0, 0);
        due("none", x.found(0), 0);
        for (int g = 0; g < 3; g++) {
            x.cord(0, g, 0, 420);
        }
        Writing.write(x, 0, 3, 1);
        Writing.write(x, 0, 4, 1);
        due("the last of two", x.found(0), 2);
        due("the first of them", x.grouping(0, 0), 0);
        due("the second of them", x.grouping(1, 0), 1);
    }

    private static void cordsAndKnots() {
        calls();
        constants();
        records();
        atMostSixty();
        groups();
        onAnEarlierOne();
        belowThree();
        colours();
        lengths();
        thirtyKnots();
        heights();
        noTwoAtOne();
        turns();
        eightIsOne();
        tornOff();
        noneCanBeTiedThere();
    }

    private static void clustersAndLevels() {
        fourBehind();
        longByItself();
        placeCut();
        worths();
        gapBehind();
        allPlaces();
        unitsOrTens();
        tenTimes();
        sixDigits();
        noCluster();
    }

    private static void faultsAndSpans() {
        noLevelsIsAFault();
        noClustersNoFault();
        moreThanNine();
        twoInOne();
        notInUnits();
        theFirstOfThese();
        noughts();
        lostAtTheLastPlace();
        unitsBehindTens();
        ninesInAll();
        numberAlone();
        faultSpan();
    }

    private static void sumsAndGroupings() {
        fortySums();
        twoToTwelve();
        unlikeOnes();
        ownAtFirst();
        atOnce();
        wholeFromParts();
        partFromWhole();
        settled();
        broken();
        spent();
        cures();
        twoOrMoreOthers();
        asManyCords();
        onTheMainOne();
        byRisingNumbers();
        noneTorn();
        noneWithAFault();
        forEach();
        someAboveNought();
    }

    public static void main(String[] args) {
        cordsAndKnots();
        clustersAndLevels();
        faultsAndSpans();
        sumsAndGroupings();
        Due.end();
    }
}

/** A call that answers RANGE, FULL or NONE for what can't be leaves all as it was. */
public final class RefusedTest {
    private static final int NONE = -1;
    private static final int RANGE = -2;
    private static final int FULL = -3;

    private interface Call {
        int on(CordHouse x);
    }

    /** RECORD 0 holds something of everything; it is settled, cured and its GROUPINGS are found. */
    private static CordHouse something() {
        CordHouse x = new CordHouse();
        Writing.cord(x, 0, 0, 1, 32);
        Writing.cord(x, 0, 1, 2, 11);
        Writing.cord(x, 0, 2, 3, 21);
        x.hang(0, 1, 4, 50);
        x.hang(0, 3, 4, 50);
        x.hang(0, 4, 4, 50);
        x.tear(0, 3, 20);
        Writing.sum(x, 0, 0, 1, 2);
        Writing.sum(x, 0, 1, 0, 2);
        x.settle(0);
        x.found(0);
        x.cure(0);
        return x;
    }

    private static void refused(String what, int answer, Call call) {
        CordHouse x = something();
        String before = Look.at(x);
        Due.due(what, call.on(x), answer);
        Due.due("all as it was behind " + what, Look.at(x), before);
    }

    private static void newCords() {
        refused("cord in no record", RANGE, x -> x.cord(4, 0, 0, 100));
        refused("cord in no group", RANGE, x -> x.cord(0, 12, 0, 100));
        refused("cord of no colour", RANGE, x -> x.cord(0, 0, 24, 100));
        refused("cord of no length", RANGE, x -> x.cord(0, 0, 0, 601));
        refused("hang in no record", RANGE, x -> x.hang(-1, 0, 0, 100));
        refused("hang on none", RANGE, x -> x.hang(0, 6, 0, 100));
        refused("hang of no colour", RANGE, x -> x.hang(0, 0, -1, 100));
        refused("hang of no length", RANGE, x -> x.hang(0, 0, 0, 9));
        refused("hang too far below", FULL, x -> x.hang(0, 5, 0, 100));
    }

    private static void knots() {
        refused("knot in no record", RANGE, x -> x.knot(4, 0, 100, 0, 0));
        refused("knot on no cord", RANGE, x -> x.knot(0, 6, 100, 0, 0));
        refused("knot of no sort", RANGE, x -> x.knot(0, 0, 100, 3, 0));
        refused("knot of no turns", RANGE, x -> x.knot(0, 0, 100, 1, 10));
        refused("knot at no height", RANGE, x -> x.knot(0, 0, 421, 0, 0));
        refused("knot where one is", RANGE, x -> x.knot(0, 0, 300, 2, 0));
        refused("knot at the tear", RANGE, x -> x.knot(0, 3, 20, 0, 0));
        refused("untie where none is", NONE, x -> x.untie(0, 0, 301));
        refused("untie on no cord", NONE, x -> x.untie(0, 6, 300));
        refused("untie in no record", NONE, x -> x.untie(4, 0, 300));
        refused("tear at no height", RANGE, x -> x.tear(0, 0, 0));
        refused("tear not lesser", RANGE, x -> x.tear(0, 3, 20));
        refused("tear of no cord", RANGE, x -> x.tear(0, 6, 20));
        refused("tear in no record", RANGE, x -> x.tear(4, 0, 20));
    }

    private static void ties() {
        refused("tie of no number", RANGE, x -> x.tie(0, 0, 1000000));
        refused("tie on no cord", RANGE, x -> x.tie(0, 6, 0));
        refused("tie in no record", RANGE, x -> x.tie(4, 0, 0));
        refused("tie without levels", NONE, x -> x.tie(0, 0, 100));
        refused("tie on a torn one", NONE, x -> x.tie(0, 3, 0));
        refused("tie on a short one", NONE, x -> x.tie(0, 4, 10));
        refused("tie on a short one, units", NONE, x -> x.tie(0, 4, 1));
    }

    private static void records() {
        refused("gap of nothing", RANGE, x -> x.gap(0, 0));
        refused("gap too wide", RANGE, x -> x.gap(0, 101));
        refused("gap of no record", RANGE, x -> x.gap(4, 15));
        refused("clear of no record", RANGE, x -> x.clear(-1));
        refused("copy of no record", RANGE, x -> x.copy(4, 0));
        refused("copy to no record", RANGE, x -> x.copy(1, 4));
    }

    private static void sums() {
        refused("sum of no cord", RANGE, x -> x.sum(0, 6));
        refused("sum in no record", RANGE, x -> x.sum(4, 0));
        refused("part that is the whole", RANGE, x -> x.part(0, 1));
        refused("part already", RANGE, x -> x.part(0, 2));
        refused("part of no cord", RANGE, x -> x.part(0, 6));
        refused("part in no record", RANGE, x -> x.part(4, 0));
        refused("part of no sum", RANGE, x -> x.part(1, 0));
        refused("drop of none", NONE, x -> x.drop(1));
        refused("drop in no record", RANGE, x -> x.drop(4));
        refused("settle of no record", RANGE, x -> x.settle(4));
        refused("cure of no record", RANGE, x -> x.cure(4));
        refused("found of no record", RANGE, x -> x.found(4));
    }

    /** What only tells changes nothing either, whatever it is asked. */
    private static void tellers() {
        CordHouse x = something();
        String before = Look.at(x);
        int[] asked = {
            x.about(0, 9, 9), x.knotAt(0, 0, 40, 0), x.level(0, 7, 0), x.number(0, -1), x.under(0, 0), x.sumAt(0, 9, 2),
            x.span(0, 0, 5), x.cured(9), x.grouping(9, 0), x.period(0, 99), x.likeness(0, 0), x.count(0, 9)};
        Due.due("asked", asked.length, 12);
        Due.due("all as it was", Look.at(x), before);
    }

    private static CordHouse fullHouse() {
        CordHouse x = new CordHouse();
        for (int c = 0; c < 60; c++) {
            x.cord(0, 0, 0, 420);
        }
        for (int s = 0; s < 40; s++) {
            x.sum(0, 0);
        }
        for (int c = 1; c <= 12; c++) {
            x.part(0, c);
        }
        for (int k = 1; k <= 30; k++) {
            x.knot(0, 0, 10 * k, 2, 0);
        }
        x.settle(0);
        return x;
    }

    /** FULL changes nothing: SPANS, counts and the last ones of all rows are there. */
    private static void full() {
        CordHouse x = fullHouse();
        Due.due("one cord more", x.cord(0, 0, 0, 100), FULL);
        Due.due("one cord more, hung", x.hang(0, 0, 0, 100), FULL);
        Due.due("one knot more", x.knot(0, 0, 301, 0, 0), FULL);
        Due.due("one sum more", x.sum(0, 1), FULL);
        Due.due("one part more", x.part(0, 13), FULL);
        Due.due("spans stay", x.span(0, 59, 1), 0);
        int[] counts = {60, 30, 40, 15, 0, 1, 60};
        for (int what = 0; what <= 6; what++) {
            Due.due("count " + what, x.count(0, what), counts[what]);
        }
        Due.due("the last knot", x.knotAt(0, 0, 29, 0), 300);
        Due.due("the last part", x.sumAt(0, 39, 21), 12);
        Due.due("no knot of the next cord", x.about(0, 1, 4), 0);
    }

    public static void main(String[] args) {
        newCords();
        knots();
        ties();
        records();
        sums();
        tellers();
        full();
        Due.end();
    }
}

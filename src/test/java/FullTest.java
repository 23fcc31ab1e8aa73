/** Every row as long as the document lets it be, held against PlainHouse: nothing is met but answers. */
public final class FullTest {
    private static final int CORDS = 60;
    private final CordHouse x = new CordHouse();
    private final PlainHouse y = new PlainHouse();

    private void knot(int c, int height, int sort, int turns) {
        Due.due("knot " + c + " at " + height, x.knot(0, c, height, sort, turns), y.knot(0, c, height, sort, turns));
    }

    /** Sixty CORDS in twelve GROUPS, each with 30 KNOTS, the last at height 600. */
    private void fill() {
        for (int c = 0; c < CORDS; c++) {
            Due.due("cord", x.cord(0, c % 12, c % 5, 600), y.cord(0, c % 12, c % 5, 600));
            for (int k = 0; k < 29; k++) {
                // 9, 9, 9 and 2 KNOTS in four LEVELS
                knot(c, 100 + 120 * (k / 9) + 3 * (k % 9), 0, 0);
            }
            knot(c, c % 3 == 0 ? 590 : 600, 1, 2 + c % 8);
            knot(c, 1, 0, 0);
        }
        for (int s = 0; s < 40; s++) {
            Due.due("sum", x.sum(0, 59 - s), y.sum(0, 59 - s));
            for (int p = 0; p < 13; p++) {
                int c = (s * 7 + p * 5) % CORDS;
                Due.due("part", x.part(0, c), y.part(0, c));
            }
        }
    }

    private void look(String when) {
        for (int what = 0; what <= 6; what++) {
            Due.due(when + " count " + what, x.count(0, what), y.count(0, what));
        }
        for (int l = 0; l <= 6; l++) {
            for (int what = 0; what <= 3; what++) {
                Due.due(when + " level", x.level(0, l, what), y.level(0, l, what));
            }
        }
        for (int c = 0; c < CORDS; c++) {
            Due.due(when + " number", x.number(0, c), y.number(0, c));
            Due.due(when + " under", x.under(0, c), y.under(0, c));
            Due.due(when + " last knot", x.knotAt(0, c, 29, 0), y.knotAt(0, c, 29, 0));
            for (int what = 0; what <= 8; what++) {
                Due.due(when + " about", x.about(0, c, what), y.about(0, c, what));
            }
        }
        for (int s = 0; s < 40; s++) {
            for (int what = 0; what <= 22; what++) {
                Due.due(when + " sumAt", x.sumAt(0, s, what), y.sumAt(0, s, what));
            }
        }
        Due.due(when + " settle", x.settle(0), y.settle(0));
        for (int c = 0; c < CORDS; c++) {
            Due.due(when + " least", x.span(0, c, 0), y.span(0, c, 0));
            Due.due(when + " greatest", x.span(0, c, 1), y.span(0, c, 1));
        }
        lookFar(when);
    }

    private void lookFar(String when) {
        Due.due(when + " cure", x.cure(0), y.cure(0));
        Due.due(when + " cured 0", x.cured(0), y.cured(0));
        Due.due(when + " cured 1", x.cured(1), y.cured(1));
        Due.due(when + " found", x.found(0), y.found(0));
        for (int i = 0; i <= 300; i++) {
            Due.due(when + " grouping", x.grouping(i, 1), y.grouping(i, 1));
        }
        Due.due(when + " copy", x.copy(0, 1), y.copy(0, 1));
        Due.due(when + " likeness", x.likeness(0, 1), y.likeness(0, 1));
        for (int g = 0; g < 12; g++) {
            Due.due(when + " period", x.period(0, g), y.period(0, g));
        }
    }

    private void run() {
        fill();
        look("full");
        Due.due("untie the last of all", x.untie(0, 59, 600), y.untie(0, 59, 600));
        Due.due("tie it again", x.knot(0, 59, 599, 1, 7), y.knot(0, 59, 599, 1, 7));
        Due.due("untie the first of it", x.untie(0, 59, 100), y.untie(0, 59, 100));
        Due.due("tie", x.tie(0, 59, 99927), y.tie(0, 59, 99927));
        Due.due("tie what it has", x.tie(0, 59, 99927), y.tie(0, 59, 99927));
        Due.due("tie nothing", x.tie(0, 59, 0), y.tie(0, 59, 0));
        Due.due("tie much", x.tie(0, 58, 99930), y.tie(0, 58, 99930));
        for (int h = 600; h >= 1; h--) {
            Due.due("untie " + h, x.untie(0, 57, h), y.untie(0, 57, h));
            Due.due("untie " + h, x.untie(0, 56, 601 - h), y.untie(0, 56, 601 - h));
        }
        look("after ties");
        for (int c = 0; c < CORDS; c++) {
            int height = 601 - 10 * c;
            Due.due("tear", x.tear(0, c, height), y.tear(0, c, height));
        }
        look("after tears");
        Due.due("clear", x.clear(0), y.clear(0));
        Due.due("copy", x.copy(1, 0), y.copy(1, 0));
        look("after a copy");
    }

    /** All in one GROUP, all of one colour. */
    private static void oneGroup() {
        CordHouse z = new CordHouse();
        for (int c = 0; c < CORDS; c++) {
            z.cord(0, 11, c == 59 ? 1 : 0, 600);
        }
        Due.due("a group of sixty", z.period(0, 11), 60);
        Due.due("none to find", z.found(0), 0);
        Due.due("all alike", z.likeness(0, 0), 60);
    }

    /** Three SUMS broken in a RECORD of sixty: all pairs are looked at in vain. */
    private static void manyPairs() {
        CordHouse z = new CordHouse();
        PlainHouse p = new PlainHouse();
        for (int c = 0; c < CORDS; c++) {
            z.cord(0, 0, 0, 600);
            p.cord(0, 0, 0, 600);
            z.knot(0, c, 500, 1, 2);
            p.knot(0, c, 500, 1, 2);
        }
        for (int s = 0; s < 3; s++) {
            for (int i = 0; i < 13; i++) {
                int c = 59 - (s * 20 + i);
                Due.due("sum", i == 0 ? z.sum(0, c) : z.part(0, c), i == 0 ? p.sum(0, c) : p.part(0, c));
            }
            Due.due("cure", z.cure(0), p.cure(0));
            Due.due("cured", z.cured(0), p.cured(0));
            Due.due("cured", z.cured(1), p.cured(1));
        }
    }

    public static void main(String[] args) {
        new FullTest().run();
        oneGroup();
        manyPairs();
        Due.end();
    }
}

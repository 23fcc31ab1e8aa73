/** All that calls tell of a house; its RECORDS should be small, for an object is used for 512 calls. */
final class Look {
    private final CordHouse x;
    private final StringBuilder text = new StringBuilder();

    private Look(CordHouse x) {
        this.x = x;
    }

    static String at(CordHouse x) {
        Look look = new Look(x);
        for (int r = 0; r < 4; r++) {
            look.record(r);
        }
        look.tell("cured", x.cured(0), x.cured(1));
        for (int i = 0; i < 3; i++) {
            look.tell("grouping", x.grouping(i, 0), x.grouping(i, 1));
        }
        return look.text.toString();
    }

    private void tell(String what, int... answers) {
        text.append(what);
        for (int answer : answers) {
            text.append(' ').append(answer);
        }
        text.append('\n');
    }

    private void record(int r) {
        for (int what = 0; what <= 6; what++) {
            tell("count", r, what, x.count(r, what));
        }
        for (int l = 0; l < x.levels(r); l++) {
            tell("level", r, x.level(r, l, 0), x.level(r, l, 1), x.level(r, l, 2), x.level(r, l, 3));
        }
        for (int c = 0; c < x.count(r, 0); c++) {
            cord(r, c);
        }
        for (int s = 0; s < x.count(r, 2); s++) {
            for (int what = 0; what < 10 + x.sumAt(r, s, 1); what = what == 2 ? 10 : what + 1) {
                tell("sum", r, s, x.sumAt(r, s, what));
            }
        }
    }

    private void cord(int r, int c) {
        for (int what = 0; what <= 8; what++) {
            tell("about", r, c, what, x.about(r, c, what));
        }
        tell("reads", r, c, x.number(r, c), x.under(r, c), x.span(r, c, 0), x.span(r, c, 1));
        for (int k = 0; k < x.about(r, c, 4); k++) {
            tell("knot", r, c, x.knotAt(r, c, k, 0), x.knotAt(r, c, k, 1), x.knotAt(r, c, k, 2));
        }
    }
}

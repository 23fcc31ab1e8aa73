/** Calls by their names, on CordHouse and on PlainHouse. */
final class Calls {
    static final String[] NAMES = {
        "cord", "hang", "knot", "untie", "tear", "tie", "gap", "clear", "copy", "about", "knotAt", "levels",
        "level", "number", "under", "sum", "part", "drop", "sumAt", "settle", "span", "cure", "cured", "found",
        "grouping", "period", "likeness", "count"};
    /** How many arguments each takes. */
    static final int[] TAKES = {
        4, 4, 5, 3, 3, 3, 2, 1, 2, 3, 4, 1,
        3, 2, 2, 2, 2, 1, 3, 1, 3, 1, 1, 1,
        2, 2, 2, 2};

    private Calls() {
    }

    static int number(String call) {
        for (int i = 0; i < NAMES.length; i++) {
            if (NAMES[i].equals(call)) {
                return i;
            }
        }
        throw new IllegalArgumentException(call);
    }

    static int onHouse(CordHouse x, String call, int[] a) {
        switch (call) {
            case "cord": return x.cord(a[0], a[1], a[2], a[3]);
            case "hang": return x.hang(a[0], a[1], a[2], a[3]);
            case "knot": return x.knot(a[0], a[1], a[2], a[3], a[4]);
            case "untie": return x.untie(a[0], a[1], a[2]);
            case "tear": return x.tear(a[0], a[1], a[2]);
            case "tie": return x.tie(a[0], a[1], a[2]);
            case "gap": return x.gap(a[0], a[1]);
            case "clear": return x.clear(a[0]);
            case "copy": return x.copy(a[0], a[1]);
            case "about": return x.about(a[0], a[1], a[2]);
            case "knotAt": return x.knotAt(a[0], a[1], a[2], a[3]);
            case "levels": return x.levels(a[0]);
            case "level": return x.level(a[0], a[1], a[2]);
            case "number": return x.number(a[0], a[1]);
            case "under": return x.under(a[0], a[1]);
            case "sum": return x.sum(a[0], a[1]);
            case "part": return x.part(a[0], a[1]);
            case "drop": return x.drop(a[0]);
            case "sumAt": return x.sumAt(a[0], a[1], a[2]);
            case "settle": return x.settle(a[0]);
            case "span": return x.span(a[0], a[1], a[2]);
            case "cure": return x.cure(a[0]);
            case "cured": return x.cured(a[0]);
            case "found": return x.found(a[0]);
            case "grouping": return x.grouping(a[0], a[1]);
            case "period": return x.period(a[0], a[1]);
            case "likeness": return x.likeness(a[0], a[1]);
            default: return x.count(a[0], a[1]);
        }
    }

    static int onPlain(PlainHouse x, String call, int[] a) {
        switch (call) {
            case "cord": return x.cord(a[0], a[1], a[2], a[3]);
            case "hang": return x.hang(a[0], a[1], a[2], a[3]);
            case "knot": return x.knot(a[0], a[1], a[2], a[3], a[4]);
            case "untie": return x.untie(a[0], a[1], a[2]);
            case "tear": return x.tear(a[0], a[1], a[2]);
            case "tie": return x.tie(a[0], a[1], a[2]);
            case "gap": return x.gap(a[0], a[1]);
            case "clear": return x.clear(a[0]);
            case "copy": return x.copy(a[0], a[1]);
            case "about": return x.about(a[0], a[1], a[2]);
            case "knotAt": return x.knotAt(a[0], a[1], a[2], a[3]);
            case "levels": return x.levels(a[0]);
            case "level": return x.level(a[0], a[1], a[2]);
            case "number": return x.number(a[0], a[1]);
            case "under": return x.under(a[0], a[1]);
            case "sum": return x.sum(a[0], a[1]);
            case "part": return x.part(a[0], a[1]);
            case "drop": return x.drop(a[0]);
            case "sumAt": return x.sumAt(a[0], a[1], a[2]);
            case "settle": return x.settle(a[0]);
            case "span": return x.span(a[0], a[1], a[2]);
            case "cure": return x.cure(a[0]);
            case "cured": return x.cured(a[0]);
            case "found": return x.found(a[0]);
            case "grouping": return x.grouping(a[0], a[1]);
            case "period": return x.period(a[0], a[1]);
            case "likeness": return x.likeness(a[0], a[1]);
            default: return x.count(a[0], a[1]);
        }
    }
}

import java.util.ArrayList;
import java.util.List;
import java.util.Random;

/** Random runs of calls, the seeds fixed, on CordHouse and on PlainHouse: the answers are alike. */
public final class AgainstPlainTest {
    private static final int[] PLACES = {60, 120, 180, 240, 300, 360};

    private final Random random;
    private final CordHouse house = new CordHouse();
    private final PlainHouse plain = new PlainHouse();
    private final List<String> told = new ArrayList<>();
    private final long seed;
    private int wrong = 0;
    private static final int[] asked = new int[Calls.NAMES.length];
    private static final int[] good = new int[Calls.NAMES.length];

    private AgainstPlainTest(long seed) {
        this.seed = seed;
        random = new Random(seed);
    }

    private int ask(String call, int... a) {
        int want = Calls.onPlain(plain, call, a);
        int got = Calls.onHouse(house, call, a);
        asked[Calls.number(call)]++;
        good[Calls.number(call)] += want >= 0 ? 1 : 0;
        StringBuilder text = new StringBuilder(call);
        for (int v : a) {
            text.append(' ').append(v);
        }
        told.add(text.append(" = ").append(want).toString());
        if (got != want) {
            wrong++;
            System.out.println("seed " + seed + ", call " + told.size() + ": " + text + ", answered " + got);
        }
        return want;
    }

    private int up(int n) {
        return random.nextInt(n);
    }

    private int record() {
        return up(30) == 0 ? (up(2) == 0 ? -1 : 4) : up(3) == 0 ? up(4) : 0;
    }

    private int cordOf(int r) {
        int n = r >= 0 && r < 4 ? plain.recs[r].cords.size() : 0;
        return up(40) == 0 ? n : up(60) == 0 ? -1 : up(Math.max(n, 1));
    }

    private int length() {
        return up(20) == 0 ? (up(2) == 0 ? 9 : 601) : up(4) == 0 ? 10 + up(591) : 420;
    }

    /** A number in KNOTS about the usual places, a few of them off. */
    private void write(int r, int c, int number, int noise) {
        for (int p = 0, worth = 100000; p < 6; p++, worth /= 10) {
            int digit = number / worth % 10;
            int place = PLACES[p] + up(2 * noise + 1) - noise;
            if (digit == 0) {
                continue;
            }
            if (p == 5) {
                ask("knot", r, c, place, digit == 1 ? 2 : 1, digit == 1 ? 0 : digit);
            } else {
                for (int i = 0; i < digit; i++) {
                    ask("knot", r, c, place - 3 * (digit - 1) / 2 + 3 * i, 0, 0);
                }
            }
        }
    }

    private int someNumber() {
        int[] tops = {10, 100, 1000, 1000, 10000, 1000000};
        return up(5) == 0 ? 0 : up(tops[up(tops.length)]);
    }

    private void lookAll(int r) {
        for (int what = -1; what <= 7; what++) {
            ask("count", r, what);
        }
        ask("levels", r);
        for (int l = -1; l < 7; l++) {
            for (int what = -1; what <= 4; what++) {
                ask("level", r, l, what);
            }
        }
        for (int c = -1; c <= plain.recs[r].cords.size(); c++) {
            ask("number", r, c);
            ask("under", r, c);
            ask("span", r, c, 0);
            ask("span", r, c, 1);
            for (int what = -1; what <= 9; what++) {
                ask("about", r, c, what);
            }
            for (int k = -1; k <= 30; k++) {
                for (int what = -1; what <= 3; what++) {
                    ask("knotAt", r, c, k, what);
                }
            }
        }
        for (int s = -1; s <= plain.recs[r].sums.size(); s++) {
            for (int what = -1; what <= 23; what++) {
                ask("sumAt", r, s, what);
            }
        }
        for (int g = -1; g <= 12; g++) {
            ask("period", r, g);
        }
    }

    private void lookFound() {
        for (int i = -1; i <= plain.found.size(); i++) {
            ask("grouping", i, 0);
            ask("grouping", i, 1);
        }
        ask("grouping", 0, 2);
        ask("grouping", 0, -1);
    }

    private void step() {
        int r = record();
        int c = cordOf(r);
        int h = up(3) == 0 ? up(603) - 1 : PLACES[up(6)] + up(21) - 10;
        switch (up(24)) {
            case 0: ask("cord", r, up(14) - 1, up(26) - 1, length()); break;
            case 1: ask("hang", r, c, up(26) - 1, length()); break;
            case 2: ask("cord", r, up(3), up(3), 420); write(r, plain.count(r, 0) - 1, someNumber(), up(8)); break;
            case 3: ask("hang", r, c, up(3), 420); write(r, plain.count(r, 0) - 1, someNumber(), up(3)); break;
            case 4: ask("knot", r, c, h, 0, up(20) == 0 ? 1 : 0); break;
            case 5: ask("knot", r, c, h, 1, 1 + up(10)); break;
            case 6: ask("knot", r, c, h, up(5) - 1, 0); break;
            case 7: ask("untie", r, c, h); ask("untie", r, c, plain.knotAt(r, c, up(30), 0)); break;
            case 8: if (up(4) == 0) ask("tear", r, c, h); break;
            case 9: ask("tie", r, c, up(20) == 0 ? 1000000 * up(2) - up(2) : someNumber()); break;
            case 10: ask("gap", r, up(3) == 0 ? up(103) - 1 : 15); break;
            case 11: if (up(12) == 0) ask("clear", r); break;
            case 12: if (up(3) == 0) ask("copy", r, record()); break;
            case 13: ask("sum", r, c); break;
            case 14: case 15: ask("part", r, c); break;
            case 16: if (up(4) == 0) ask("drop", r); break;
            case 17: ask("settle", r); break;
            case 18: ask("cure", r); ask("cured", -1); ask("cured", 0); ask("cured", 1); ask("cured", 2); break;
            case 19: ask("found", r); lookFound(); break;
            case 20: ask("likeness", r, record()); break;
            case 21: ask("span", r, c, up(4) - 1); break;
            case 22: ask("count", r, up(9) - 1); break;
            default: ask("number", r, c); break;
        }
    }

    private void wander(int steps) {
        for (int i = 0; i < steps; i++) {
            step();
        }
        for (int r = 0; r < 4; r++) {
            lookAll(r);
            ask("settle", r);
            ask("cure", r);
        }
    }

    /** CORDS whose numbers keep SUMS, then some are torn, some tied wrong, and all is asked. */
    private void sums(int cords, int sums) {
        int top = new int[] {10, 100, 1000, 100000}[up(4)];
        for (int c = 0; c < cords; c++) {
            ask("cord", 0, up(12), up(4), 600);
            write(0, c, up(top), 2);
        }
        for (int s = 0; s < sums; s++) {
            ask("sum", 0, up(cords));
            int parts = up(6) == 0 ? 13 : 1 + up(4);
            int together = 0;
            for (int p = 0; p < parts; p++) {
                int c = up(cords);
                together += ask("part", 0, c) > 0 ? Math.max(plain.number(0, c), 0) : 0;
            }
            if (up(6) > 0) {
                ask("tie", 0, plain.sumAt(0, s, 0), Math.min(together, 999999));
            }
        }
        for (int i = 0; i < 6; i++) {
            ask("settle", 0);
            for (int c = 0; c < cords; c++) {
                ask("span", 0, c, 0);
                ask("span", 0, c, 1);
            }
            ask("cure", 0);
            ask("cured", 0);
            ask("cured", 1);
            ask("cured", 2);
            if (up(2) == 0) {
                ask("tear", 0, up(cords), 1 + up(400));
            } else {
                ask("tie", 0, up(cords), up(top));
            }
        }
    }

    /** GROUPS of as many CORDS whose numbers are small, so that many GROUPINGS hold. */
    private void groups() {
        int each = 1 + up(3);
        int groups = 3 + up(10);
        int most = 1 + up(4);
        for (int i = 0; i < each; i++) {
            for (int g = 0; g < groups; g++) {
                ask("cord", 1, g, up(2), 420);
                write(1, i * groups + g, up(most) * 10 + up(2), 1);
                if (up(9) == 0) {
                    ask("hang", 1, 0, 0, 100);
                    ask("untie", 1, 0, 1);
                }
            }
        }
        ask("found", 1);
        lookFound();
        ask("copy", 1, 2);
        for (int i = 0; i < 8; i++) {
            ask("tie", 2, up(each * groups), up(most) * 10 + up(2));
            ask("likeness", 1, 2);
            ask("likeness", 2, 1);
            ask("found", 2);
            lookFound();
        }
        ask("tear", 2, up(each * groups), 1 + up(420));
        ask("cord", 2, up(groups), 0, 400);
        ask("found", 2);
        lookFound();
        ask("likeness", 2, 1);
        lookAll(2);
    }

    public static void main(String[] args) {
        int seeds = args.length > 0 ? Integer.parseInt(args[0]) : 120;
        int wrong = 0;
        for (int seed = 1; seed <= seeds && wrong < 20; seed++) {
            AgainstPlainTest run = new AgainstPlainTest(seed);
            switch (seed % 4) {
                case 0: run.groups(); break;
                case 1: run.sums(4 + run.up(12), 1 + run.up(10)); break;
                case 2: run.wander(250); break;
                default: run.sums(4 + run.up(5), 3 + run.up(20)); break;
            }
            wrong += run.wrong;
        }
        for (int i = 0; i < Calls.NAMES.length; i++) {
            if (args.length > 0 || good[i] == 0) {
                System.out.println(Calls.NAMES[i] + ": " + asked[i] + " calls, " + good[i] + " not refused");
            }
            if (good[i] == 0) {
                wrong++;
            }
        }
        System.out.println(seeds + " runs, " + wrong + " wrong");
        if (wrong != 0) {
            System.exit(1);
        }
    }
}

import java.util.ArrayList;
import java.util.Arrays;
import java.util.List;
import java.util.Map;
import java.util.TreeMap;

/** The document once more, in its slowest and plainest form, to hold CordHouse against. */
final class PlainHouse {
    static final int NONE = -1;
    static final int RANGE = -2;
    static final int FULL = -3;

    static final class Cord {
        int group, on, colour, length, tear = Integer.MAX_VALUE;
        TreeMap<Integer, int[]> knots = new TreeMap<>();

        Cord twin() {
            Cord t = new Cord();
            t.group = group;
            t.on = on;
            t.colour = colour;
            t.length = length;
            t.tear = tear;
            t.knots.putAll(knots);
            return t;
        }

        boolean torn() {
            return tear != Integer.MAX_VALUE;
        }

        /** Rows of place, worth, sort. */
        List<int[]> clusters() {
            List<int[]> all = new ArrayList<>();
            List<Integer> run = new ArrayList<>();
            for (Map.Entry<Integer, int[]> e : knots.entrySet()) {
                int h = e.getKey();
                int sort = e.getValue()[0];
                boolean joins = sort == 0 && !run.isEmpty() && h - run.get(run.size() - 1) <= 4;
                if (!joins) {
                    close(run, all);
                }
                if (sort == 0) {
                    run.add(h);
                } else {
                    all.add(new int[] {h, sort == 1 ? e.getValue()[1] : 1, sort});
                }
            }
            close(run, all);
            return all;
        }

        private static void close(List<Integer> run, List<int[]> all) {
            if (!run.isEmpty()) {
                all.add(new int[] {(run.get(0) + run.get(run.size() - 1)) / 2, run.size(), 0});
                run.clear();
            }
        }
    }

    static final class Rec {
        int gap = 15;
        List<Cord> cords = new ArrayList<>();
        List<List<Integer>> sums = new ArrayList<>();
        int[][] spans;

        Rec twin() {
            Rec t = new Rec();
            t.gap = gap;
            for (Cord c : cords) {
                t.cords.add(c.twin());
            }
            for (List<Integer> s : sums) {
                t.sums.add(new ArrayList<>(s));
            }
            return t;
        }

        String text() {
            StringBuilder b = new StringBuilder();
            b.append(gap).append(sums);
            for (Cord c : cords) {
                b.append('|').append(Arrays.asList(c.group, c.on, c.colour, c.length, c.tear));
                c.knots.forEach((h, k) -> b.append(h).append(Arrays.toString(k)));
            }
            return b.toString();
        }

        boolean units() {
            return cords.stream().anyMatch(c -> c.clusters().stream().anyMatch(k -> k[2] != 0));
        }

        /** Rows of first, last, counts, clusters; none as told. */
        List<int[]> levels() {
            List<Integer> places = new ArrayList<>();
            for (Cord c : cords) {
                for (int[] k : c.clusters()) {
                    places.add(k[0]);
                }
            }
            places.sort(null);
            List<int[]> all = new ArrayList<>();
            for (int i = 0; i < places.size(); i++) {
                int p = places.get(i);
                if (i == 0 || p - places.get(i - 1) > gap) {
                    all.add(new int[] {p, p, 0, 0});
                }
                all.get(all.size() - 1)[1] = p;
                all.get(all.size() - 1)[3]++;
            }
            int digits = all.size() + (units() ? 0 : 1);
            if (digits > 6) {
                return new ArrayList<>();
            }
            for (int l = 0; l < all.size(); l++) {
                all.get(l)[2] = (int) Math.round(Math.pow(10, digits - 1 - l));
            }
            return all;
        }

        int levelOf(int place) {
            List<int[]> all = levels();
            for (int l = 0; l < all.size(); l++) {
                if (place >= all.get(l)[0] && place <= all.get(l)[1]) {
                    return l;
                }
            }
            throw new IllegalStateException("a place without a level");
        }

        int fault(int c) {
            List<int[]> all = levels();
            List<int[]> own = cords.get(c).clusters();
            if (all.isEmpty()) {
                return cords.stream().allMatch(d -> d.knots.isEmpty()) ? 0 : 1;
            }
            for (int[] k : own) {
                if (k[2] == 0 && k[1] > 9) {
                    return 2;
                }
            }
            for (int i = 0; i < own.size(); i++) {
                for (int j = 0; j < i; j++) {
                    if (levelOf(own.get(i)[0]) == levelOf(own.get(j)[0])) {
                        return 3;
                    }
                }
            }
            for (int[] k : own) {
                boolean inUnits = all.get(levelOf(k[0]))[2] == 1;
                if (k[2] == 0 ? inUnits : !inUnits) {
                    return 4;
                }
            }
            return 0;
        }

        int value(int c) {
            int n = 0;
            for (int[] k : cords.get(c).clusters()) {
                int[] level = levels().get(levelOf(k[0]));
                if (level[1] < cords.get(c).tear) {
                    n += k[1] * level[2];
                }
            }
            return n;
        }

        int told(int c) {
            return fault(c) == 0 ? value(c) : -10 - fault(c);
        }

        boolean sound(int c) {
            return !cords.get(c).torn() && fault(c) == 0;
        }

        int[] own(int c) {
            if (fault(c) != 0) {
                return new int[] {0, 999999};
            }
            int v = value(c);
            int most = v;
            List<int[]> all = levels();
            for (int l = 0; l < all.size(); l++) {
                if (all.get(l)[1] >= cords.get(c).tear) {
                    most += 9 * all.get(l)[2];
                    if (l == all.size() - 1 && all.get(l)[2] == 10) {
                        most += 9;
                    }
                }
            }
            return new int[] {v, most};
        }

        int[][] ownAll() {
            int[][] all = new int[cords.size()][];
            for (int c = 0; c < all.length; c++) {
                all[c] = own(c);
            }
            return all;
        }

        /** Does the rounds on s in place. */
        int rounds(int[][] s) {
            for (int done = 0; done < 200; done++) {
                int[][] was = new int[s.length][];
                for (int c = 0; c < s.length; c++) {
                    was[c] = s[c].clone();
                }
                for (List<Integer> sum : sums) {
                    if (sum.size() >= 3) {
                        narrow(s, was, sum);
                    }
                }
                for (int[] one : s) {
                    if (one[0] > one[1]) {
                        return NONE;
                    }
                }
                if (Arrays.deepEquals(s, was)) {
                    return done;
                }
            }
            return -4;
        }

        private static void narrow(int[][] s, int[][] was, List<Integer> sum) {
            for (int t = 0; t < sum.size(); t++) {
                int least = t == 0 ? 0 : was[sum.get(0)][0];
                int most = t == 0 ? 0 : was[sum.get(0)][1];
                for (int u = 1; u < sum.size(); u++) {
                    if (t == 0) {
                        least += was[sum.get(u)][0];
                        most += was[sum.get(u)][1];
                    } else if (u != t) {
                        least -= was[sum.get(u)][1];
                        most -= was[sum.get(u)][0];
                    }
                }
                int c = sum.get(t);
                s[c] = new int[] {Math.max(s[c][0], least), Math.min(s[c][1], most)};
            }
        }

        boolean mends(int[][] own, int a, int b) {
            int[][] s = new int[own.length][];
            for (int c = 0; c < s.length; c++) {
                s[c] = c == a || c == b ? new int[] {0, 999999} : own[c].clone();
            }
            return rounds(s) != NONE;
        }

        List<Integer> group(int g) {
            List<Integer> all = new ArrayList<>();
            for (int c = 0; c < cords.size(); c++) {
                if (cords.get(c).group == g) {
                    all.add(c);
                }
            }
            return all;
        }
    }

    final Rec[] recs = {new Rec(), new Rec(), new Rec(), new Rec()};
    List<Integer> cured = new ArrayList<>();
    List<int[]> found = new ArrayList<>();

    private static boolean in(int v, int least, int most) {
        return v >= least && v <= most;
    }

    private boolean has(int r, int c) {
        return in(r, 0, 3) && in(c, 0, recs[r].cords.size() - 1);
    }

    private int more(int r, int group, int on, int colour, int length) {
        if (recs[r].cords.size() == 60) {
            return FULL;
        }
        Cord c = new Cord();
        c.group = group;
        c.on = on;
        c.colour = colour;
        c.length = length;
        recs[r].cords.add(c);
        recs[r].spans = null;
        return recs[r].cords.size() - 1;
    }

    int cord(int r, int group, int colour, int length) {
        if (!in(r, 0, 3) || !in(group, 0, 11) || !in(colour, 0, 23) || !in(length, 10, 600)) {
            return RANGE;
        }
        return more(r, group, NONE, colour, length);
    }

    int hang(int r, int on, int colour, int length) {
        if (!has(r, on) || !in(colour, 0, 23) || !in(length, 10, 600)) {
            return RANGE;
        }
        int above = 0;
        for (int at = on; at != NONE; at = recs[r].cords.get(at).on) {
            above++;
        }
        return above > 3 ? FULL : more(r, NONE, on, colour, length);
    }

    int knot(int r, int c, int height, int sort, int turns) {
        if (!has(r, c) || !in(sort, 0, 2) || (sort == 1 ? !in(turns, 2, 9) : turns != 0)) {
            return RANGE;
        }
        Cord x = recs[r].cords.get(c);
        if (!in(height, 1, x.length) || height >= x.tear || x.knots.containsKey(height)) {
            return RANGE;
        }
        if (x.knots.size() == 30) {
            return FULL;
        }
        x.knots.put(height, new int[] {sort, turns});
        recs[r].spans = null;
        return x.knots.size();
    }

    int untie(int r, int c, int height) {
        if (!has(r, c) || recs[r].cords.get(c).knots.remove(height) == null) {
            return NONE;
        }
        recs[r].spans = null;
        return recs[r].cords.get(c).knots.size();
    }

    int tear(int r, int c, int height) {
        if (!has(r, c)) {
            return RANGE;
        }
        Cord x = recs[r].cords.get(c);
        if (!in(height, 1, x.length) || height >= x.tear) {
            return RANGE;
        }
        x.tear = height;
        x.knots.tailMap(height, true).clear();
        recs[r].spans = null;
        return x.knots.size();
    }

    int tie(int r, int c, int number) {
        if (!has(r, c) || !in(number, 0, 999999)) {
            return RANGE;
        }
        Rec x = recs[r];
        List<int[]> levels = x.levels();
        if (levels.isEmpty() || x.cords.get(c).torn()) {
            return NONE;
        }
        Rec t = x.twin();
        t.cords.get(c).knots.clear();
        int rest = number;
        for (int[] l : levels) {
            int digit = number / l[2] % 10;
            rest -= digit * l[2];
            int spread = 3 * (digit - 1);
            for (int i = 0; i < (l[2] == 1 ? Math.min(digit, 1) : digit); i++) {
                int h = l[2] == 1 ? l[0] : l[0] - spread / 2 + 3 * i;
                int[] k = l[2] > 1 ? new int[] {0, 0} : digit == 1 ? new int[] {2, 0} : new int[] {1, digit};
                if (!in(h, 1, t.cords.get(c).length) || t.cords.get(c).knots.put(h, k) != null) {
                    return NONE;
                }
            }
        }
        if (rest != 0 || t.cords.get(c).knots.size() > 30 || t.told(c) != number) {
            return NONE;
        }
        for (int d = 0; d < x.cords.size(); d++) {
            if (d != c && t.told(d) != x.told(d)) {
                return NONE;
            }
        }
        replace(r, t);
        return number;
    }

    private void replace(int r, Rec t) {
        t.spans = t.text().equals(recs[r].text()) ? recs[r].spans : null;
        recs[r] = t;
    }

    int gap(int r, int n) {
        if (!in(r, 0, 3) || !in(n, 1, 100)) {
            return RANGE;
        }
        int was = recs[r].gap;
        Rec t = recs[r].twin();
        t.gap = n;
        replace(r, t);
        return was;
    }

    int clear(int r) {
        if (!in(r, 0, 3)) {
            return RANGE;
        }
        int had = recs[r].cords.size();
        recs[r] = new Rec();
        return had;
    }

    int copy(int r, int to) {
        if (!in(r, 0, 3) || !in(to, 0, 3)) {
            return RANGE;
        }
        replace(to, recs[r].twin());
        return recs[to].cords.size();
    }

    int about(int r, int c, int what) {
        if (!has(r, c)) {
            return NONE;
        }
        Cord x = recs[r].cords.get(c);
        switch (what) {
            case 0: return x.group;
            case 1: return x.on;
            case 2: return x.colour;
            case 3: return x.length;
            case 4: return x.knots.size();
            case 5: return x.torn() ? x.tear : NONE;
            case 6: return x.clusters().size();
            case 7: return recs[r].fault(c);
            case 8: return (int) recs[r].cords.stream().filter(d -> d.on == c).count();
            default: return NONE;
        }
    }

    int knotAt(int r, int c, int k, int what) {
        if (!has(r, c) || !in(k, 0, recs[r].cords.get(c).knots.size() - 1) || !in(what, 0, 2)) {
            return NONE;
        }
        TreeMap<Integer, int[]> knots = recs[r].cords.get(c).knots;
        int height = new ArrayList<>(knots.keySet()).get(k);
        return what == 0 ? height : knots.get(height)[what - 1];
    }

    int levels(int r) {
        if (!in(r, 0, 3)) {
            return RANGE;
        }
        int n = recs[r].levels().size();
        return n == 0 ? NONE : n;
    }

    int level(int r, int l, int what) {
        if (!in(r, 0, 3) || !in(l, 0, recs[r].levels().size() - 1) || !in(what, 0, 3)) {
            return NONE;
        }
        return recs[r].levels().get(l)[what];
    }

    int number(int r, int c) {
        return has(r, c) ? recs[r].told(c) : NONE;
    }

    int under(int r, int c) {
        if (!has(r, c)) {
            return NONE;
        }
        int n = 0;
        for (int d = 0; d < recs[r].cords.size(); d++) {
            if (recs[r].cords.get(d).on == c) {
                if (!recs[r].sound(d)) {
                    return NONE;
                }
                n += recs[r].told(d);
            }
        }
        return n;
    }

    int sum(int r, int c) {
        if (!has(r, c)) {
            return RANGE;
        }
        if (recs[r].sums.size() == 40) {
            return FULL;
        }
        recs[r].sums.add(new ArrayList<>(List.of(c)));
        recs[r].spans = null;
        return recs[r].sums.size() - 1;
    }

    int part(int r, int c) {
        if (!has(r, c) || recs[r].sums.isEmpty()) {
            return RANGE;
        }
        List<Integer> s = recs[r].sums.get(recs[r].sums.size() - 1);
        if (s.contains(c)) {
            return RANGE;
        }
        if (s.size() == 13) {
            return FULL;
        }
        s.add(c);
        recs[r].spans = null;
        return s.size() - 1;
    }

    int drop(int r) {
        if (!in(r, 0, 3)) {
            return RANGE;
        }
        int n = recs[r].sums.size();
        if (n == 0) {
            return NONE;
        }
        recs[r].sums.remove(n - 1);
        recs[r].spans = null;
        return n - 1;
    }

    int sumAt(int r, int s, int what) {
        if (!in(r, 0, 3) || !in(s, 0, recs[r].sums.size() - 1)) {
            return NONE;
        }
        List<Integer> sum = recs[r].sums.get(s);
        if (what == 0) {
            return sum.get(0);
        }
        if (what == 1) {
            return sum.size() - 1;
        }
        if (what == 2) {
            if (sum.size() < 3 || !sum.stream().allMatch(c -> recs[r].sound(c))) {
                return NONE;
            }
            int parts = sum.stream().skip(1).mapToInt(c -> recs[r].told(c)).sum();
            return parts == recs[r].told(sum.get(0)) ? 1 : 0;
        }
        return in(what, 10, 10 + sum.size() - 2) ? sum.get(what - 9) : NONE;
    }

    int settle(int r) {
        if (!in(r, 0, 3)) {
            return RANGE;
        }
        recs[r].spans = recs[r].ownAll();
        return recs[r].rounds(recs[r].spans);
    }

    int span(int r, int c, int side) {
        return has(r, c) && recs[r].spans != null && in(side, 0, 1) ? recs[r].spans[c][side] : NONE;
    }

    int cure(int r) {
        if (!in(r, 0, 3)) {
            return RANGE;
        }
        Rec x = recs[r];
        int[][] own = x.ownAll();
        if (x.mends(own, NONE, NONE)) {
            cured = List.of();
            return 0;
        }
        for (int a = 0; a < own.length; a++) {
            if (x.mends(own, a, NONE)) {
                cured = List.of(a);
                return 1;
            }
        }
        for (int a = 0; a < own.length; a++) {
            for (int b = a + 1; b < own.length; b++) {
                if (x.mends(own, a, b)) {
                    cured = List.of(a, b);
                    return 2;
                }
            }
        }
        return NONE;
    }

    int cured(int i) {
        return in(i, 0, cured.size() - 1) ? cured.get(i) : NONE;
    }

    int found(int r) {
        if (!in(r, 0, 3)) {
            return RANGE;
        }
        found = new ArrayList<>();
        Rec x = recs[r];
        List<int[]> numbers = new ArrayList<>();
        for (int g = 0; g < 12; g++) {
            List<Integer> own = x.group(g);
            boolean good = !own.isEmpty() && own.stream().allMatch(x::sound);
            numbers.add(good ? own.stream().mapToInt(x::told).toArray() : null);
        }
        for (int g = 0; g < 12; g++) {
            for (int set = 0; set < 4096; set++) {
                if (isGrouping(numbers, g, set)) {
                    found.add(new int[] {g, set});
                }
            }
        }
        if (found.size() > 300) {
            found = new ArrayList<>();
            return FULL;
        }
        return found.size();
    }

    private static boolean isGrouping(List<int[]> numbers, int g, int set) {
        int[] whole = numbers.get(g);
        if (whole == null || (set >> g & 1) != 0 || Integer.bitCount(set) < 2) {
            return false;
        }
        int[] together = new int[whole.length];
        for (int h = 0; h < 12; h++) {
            if ((set >> h & 1) == 0) {
                continue;
            }
            if (numbers.get(h) == null || numbers.get(h).length != whole.length) {
                return false;
            }
            for (int i = 0; i < whole.length; i++) {
                together[i] += numbers.get(h)[i];
            }
        }
        return Arrays.equals(together, whole) && Arrays.stream(whole).anyMatch(v -> v > 0);
    }

    int grouping(int i, int what) {
        return in(i, 0, found.size() - 1) && in(what, 0, 1) ? found.get(i)[what] : NONE;
    }

    int period(int r, int g) {
        if (!in(r, 0, 3) || !in(g, 0, 11)) {
            return NONE;
        }
        List<Integer> own = recs[r].group(g);
        for (int p = 1; p <= own.size(); p++) {
            boolean good = true;
            for (int i = 0; i + p < own.size(); i++) {
                good &= recs[r].cords.get(own.get(i)).colour == recs[r].cords.get(own.get(i + p)).colour;
            }
            if (good) {
                return p;
            }
        }
        return NONE;
    }

    int likeness(int r, int o) {
        if (!in(r, 0, 3) || !in(o, 0, 3)) {
            return RANGE;
        }
        List<Long> a = faces(recs[r]);
        List<Long> b = faces(recs[o]);
        int[][] best = new int[a.size() + 1][b.size() + 1];
        for (int i = a.size() - 1; i >= 0; i--) {
            for (int j = b.size() - 1; j >= 0; j--) {
                best[i][j] = Math.max(best[i + 1][j], best[i][j + 1]);
                if (a.get(i).equals(b.get(j))) {
                    best[i][j] = Math.max(best[i][j], 1 + best[i + 1][j + 1]);
                }
            }
        }
        return best[0][0];
    }

    private static List<Long> faces(Rec x) {
        List<Long> all = new ArrayList<>();
        for (int c = 0; c < x.cords.size(); c++) {
            if (x.sound(c)) {
                all.add(x.cords.get(c).colour * 1000000L + x.told(c));
            }
        }
        return all;
    }

    int count(int r, int what) {
        if (!in(r, 0, 3)) {
            return NONE;
        }
        Rec x = recs[r];
        switch (what) {
            case 0: return x.cords.size();
            case 1: return x.cords.stream().mapToInt(c -> c.knots.size()).sum();
            case 2: return x.sums.size();
            case 3: return x.gap;
            case 4: return (int) x.cords.stream().filter(Cord::torn).count();
            case 5: {
                int n = 0;
                for (int c = 0; c < x.cords.size(); c++) {
                    n += x.fault(c) == 0 ? 0 : 1;
                }
                return n;
            }
            case 6: return (int) x.cords.stream().filter(c -> c.on == NONE).count();
            default: return NONE;
        }
    }
}

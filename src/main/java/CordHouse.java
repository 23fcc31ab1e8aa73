import java.util.Arrays;

/** A house of knotted records; ../shared/DOC.md says what each call answers. */
public final class CordHouse {
    public static final int NONE = -1;
    public static final int RANGE = -2;
    public static final int FULL = -3;

    private static final int SPENT = -4;
    private static final int RECORDS = 4;
    private static final int CORDS = 60;
    private static final int MOST_ABOVE = 3;
    private static final int GROUPS = 12;
    private static final int COLOURS = 24;
    private static final int LEAST_LENGTH = 10;
    private static final int MOST_LENGTH = 600;
    private static final int KNOTS = 30;
    private static final int SIMPLE = 0;
    private static final int LONG = 1;
    private static final int EIGHT = 2;
    private static final int CLOSE = 4;
    private static final int TIED_APART = 3;
    private static final int UNTORN = 0;
    private static final int FIRST_GAP = 15;
    private static final int MOST_GAP = 100;
    private static final int DIGITS = 6;
    private static final int MOST_NUMBER = 999999;
    private static final int SUMS = 40;
    private static final int LEAST_PARTS = 2;
    private static final int PARTS = 12;
    private static final int ROUNDS = 200;
    private static final int GROUPINGS = 300;

    private final KnotRecord[] records = new KnotRecord[RECORDS];
    private final Rounds rounds = new Rounds();
    private final Cure latestCure = new Cure();
    private final Groupings latestFound = new Groupings();
    private final Knotter knotter = new Knotter();
    private final int[] row = new int[CORDS + 1];

    public CordHouse() {
        for (int r = 0; r < RECORDS; r++) {
            records[r] = new KnotRecord();
        }
    }

    // ---- cords

    public int cord(int r, int group, int colour, int length) {
        KnotRecord x = recordOf(r);
        if (x == null || group < 0 || group >= GROUPS || !canBeCord(colour, length)) {
            return RANGE;
        }
        return x.addCord(group, NONE, colour, length);
    }

    public int hang(int r, int on, int colour, int length) {
        KnotRecord x = recordOf(r);
        if (x == null || !x.cords.has(on) || !canBeCord(colour, length)) {
            return RANGE;
        }
        if (x.cords.aboveOneOn(on) > MOST_ABOVE) {
            return FULL;
        }
        return x.addCord(NONE, on, colour, length);
    }

    public int knot(int r, int c, int height, int sort, int turns) {
        KnotRecord x = recordOf(r);
        if (x == null || !x.cords.has(c) || !canBeKnot(sort, turns) || !x.cords.isFree(c, height)) {
            return RANGE;
        }
        if (x.cords.knots[c] >= KNOTS) {
            return FULL;
        }
        x.cords.insert(c, pack(height, sort, turns));
        x.changed();
        return x.cords.knots[c];
    }

    public int untie(int r, int c, int height) {
        KnotRecord x = recordOf(r);
        if (x == null || !x.cords.has(c) || !x.cords.remove(c, height)) {
            return NONE;
        }
        x.changed();
        return x.cords.knots[c];
    }

    public int tear(int r, int c, int height) {
        KnotRecord x = recordOf(r);
        if (x == null || !x.cords.has(c) || !x.cords.isWhole(c, height)) {
            return RANGE;
        }
        x.cords.cutAt(c, height);
        x.changed();
        return x.cords.knots[c];
    }

    public int tie(int r, int c, int number) {
        KnotRecord x = readOf(r);
        if (x == null || !x.cords.has(c) || number < 0 || number > MOST_NUMBER) {
            return RANGE;
        }
        boolean canBe = x.cords.tear[c] == UNTORN && knotter.plan(x.reading, x.cords.length[c], number);
        return canBe && knotter.knotAsPlanned(x, c, number) ? number : NONE;
    }

    public int gap(int r, int n) {
        KnotRecord x = recordOf(r);
        if (x == null || n < 1 || n > MOST_GAP) {
            return RANGE;
        }
        int was = x.gap;
        if (n != was) {
            x.gap = n;
            x.changed();
        }
        return was;
    }

    public int clear(int r) {
        KnotRecord x = recordOf(r);
        if (x == null) {
            return RANGE;
        }
        int had = x.cords.size;
        x.makeEmpty();
        return had;
    }

    public int copy(int r, int to) {
        KnotRecord x = recordOf(r);
        KnotRecord y = recordOf(to);
        if (x == null || y == null) {
            return RANGE;
        }
        y.becomeLike(x);
        return y.cords.size;
    }

    // ---- reading

    public int about(int r, int c, int what) {
        KnotRecord x = recordOf(r);
        if (x == null || !x.cords.has(c)) {
            return NONE;
        }
        Cords cords = x.cords;
        switch (what) {
            case 0: return cords.group[c];
            case 1: return cords.on[c];
            case 2: return cords.colour[c];
            case 3: return cords.length[c];
            case 4: return cords.knots[c];
            case 5: return cords.tear[c] == UNTORN ? NONE : cords.tear[c];
            case 6: return x.readNow().clusters[c];
            case 7: return x.readNow().fault[c];
            case 8: return cords.howManyOn(c);
            default: return NONE;
        }
    }

    public int knotAt(int r, int c, int k, int what) {
        KnotRecord x = recordOf(r);
        if (x == null || !x.cords.has(c) || k < 0 || k >= x.cords.knots[c]) {
            return NONE;
        }
        int packed = x.cords.tied[c * KNOTS + k];
        switch (what) {
            case 0: return heightOf(packed);
            case 1: return sortOf(packed);
            case 2: return turnsOf(packed);
            default: return NONE;
        }
    }

    public int levels(int r) {
        KnotRecord x = readOf(r);
        if (x == null) {
            return RANGE;
        }
        return x.reading.levels == 0 ? NONE : x.reading.levels;
    }

    public int level(int r, int l, int what) {
        KnotRecord x = readOf(r);
        if (x == null || l < 0 || l >= x.reading.levels) {
            return NONE;
        }
        Reading reading = x.reading;
        switch (what) {
            case 0: return reading.first[l];
            case 1: return reading.last[l];
            case 2: return reading.counts[l];
            case 3: return reading.members[l];
            default: return NONE;
        }
    }

    public int number(int r, int c) {
        KnotRecord x = readOf(r);
        return x == null || !x.cords.has(c) ? NONE : x.reading.told(c);
    }

    public int under(int r, int c) {
        KnotRecord x = readOf(r);
        if (x == null || !x.cords.has(c)) {
            return NONE;
        }
        int together = 0;
        for (int d = c + 1; d < x.cords.size; d++) {
            if (x.cords.on[d] != c) {
                continue;
            }
            if (!x.isSound(d)) {
                return NONE;
            }
            together += x.reading.value[d];
        }
        return together;
    }

    // ---- sums

    public int sum(int r, int c) {
        KnotRecord x = recordOf(r);
        if (x == null || !x.cords.has(c)) {
            return RANGE;
        }
        if (x.sums.size >= SUMS) {
            return FULL;
        }
        x.sums.begin(c);
        x.changed();
        return x.sums.size - 1;
    }

    public int part(int r, int c) {
        KnotRecord x = recordOf(r);
        if (x == null || !x.cords.has(c) || x.sums.size == 0) {
            return RANGE;
        }
        int s = x.sums.size - 1;
        if (x.sums.holds(s, c)) {
            return RANGE;
        }
        if (x.sums.parts[s] >= PARTS) {
            return FULL;
        }
        x.sums.addPart(s, c);
        x.changed();
        return x.sums.parts[s];
    }

    public int drop(int r) {
        KnotRecord x = recordOf(r);
        if (x == null) {
            return RANGE;
        }
        if (x.sums.size == 0) {
            return NONE;
        }
        x.sums.size--;
        x.changed();
        return x.sums.size;
    }

    public int sumAt(int r, int s, int what) {
        KnotRecord x = readOf(r);
        if (x == null || s < 0 || s >= x.sums.size) {
            return NONE;
        }
        if (what >= 10) {
            int p = what - 10;
            return p < x.sums.parts[s] ? x.sums.partOf(s, p) : NONE;
        }
        switch (what) {
            case 0: return x.sums.whole[s];
            case 1: return x.sums.parts[s];
            case 2: return x.keepsSum(s);
            default: return NONE;
        }
    }

    public int settle(int r) {
        KnotRecord x = readOf(r);
        if (x == null) {
            return RANGE;
        }
        int ended = rounds.run(x, NONE, NONE);
        x.keepSpans(rounds);
        return ended;
    }

    public int span(int r, int c, int side) {
        KnotRecord x = recordOf(r);
        if (x == null || !x.cords.has(c) || !x.settled) {
            return NONE;
        }
        switch (side) {
            case 0: return x.low[c];
            case 1: return x.high[c];
            default: return NONE;
        }
    }

    public int cure(int r) {
        KnotRecord x = readOf(r);
        return x == null ? RANGE : latestCure.seek(x, rounds);
    }

    public int cured(int i) {
        return latestCure.cordAt(i);
    }

    // ---- groups

    public int found(int r) {
        KnotRecord x = readOf(r);
        return x == null ? RANGE : latestFound.seek(x);
    }

    public int grouping(int i, int what) {
        if (i < 0 || i >= latestFound.size) {
            return NONE;
        }
        switch (what) {
            case 0: return latestFound.whole[i];
            case 1: return latestFound.set[i];
            default: return NONE;
        }
    }

    public int period(int r, int g) {
        KnotRecord x = recordOf(r);
        if (x == null || g < 0 || g >= GROUPS) {
            return NONE;
        }
        int n = x.cords.coloursOfGroup(g, row);
        for (int p = 1; p <= n; p++) {
            if (repeats(row, n, p)) {
                return p;
            }
        }
        return NONE;
    }

    public int likeness(int r, int o) {
        KnotRecord x = readOf(r);
        KnotRecord y = readOf(o);
        if (x == null || y == null) {
            return RANGE;
        }
        Arrays.fill(row, 0);
        for (int c = 0; c < x.cords.size; c++) {
            if (x.isSound(c)) {
                growLikeness(x, c, y);
            }
        }
        return row[y.cords.size];
    }

    public int count(int r, int what) {
        KnotRecord x = recordOf(r);
        if (x == null) {
            return NONE;
        }
        switch (what) {
            case 0: return x.cords.size;
            case 1: return x.cords.allKnots();
            case 2: return x.sums.size;
            case 3: return x.gap;
            case 4: return x.cords.howManyTorn();
            case 5: return x.readNow().howManyFaults(x.cords.size);
            case 6: return x.cords.howManyOn(NONE);
            default: return NONE;
        }
    }

    // ---- what the calls share

    private KnotRecord recordOf(int r) {
        return r >= 0 && r < RECORDS ? records[r] : null;
    }

    /** A RECORD whose reading is that of its KNOTS as they are. */
    private KnotRecord readOf(int r) {
        KnotRecord x = recordOf(r);
        if (x != null) {
            x.readNow();
        }
        return x;
    }

    /** row[j] is the longest common row of the CORDS of x taken so far and the first j of y. */
    private void growLikeness(KnotRecord x, int c, KnotRecord y) {
        int before = 0;
        for (int j = 1; j <= y.cords.size; j++) {
            int was = row[j];
            row[j] = areAlike(x, c, y, j - 1) ? before + 1 : Math.max(was, row[j - 1]);
            before = was;
        }
    }

    private static boolean areAlike(KnotRecord x, int c, KnotRecord y, int d) {
        return x.cords.colour[c] == y.cords.colour[d]
            && y.isSound(d)
            && x.reading.value[c] == y.reading.value[d];
    }

    private static boolean repeats(int[] row, int n, int p) {
        for (int i = p; i < n; i++) {
            if (row[i] != row[i - p]) {
                return false;
            }
        }
        return true;
    }

    private static boolean canBeCord(int colour, int length) {
        return colour >= 0 && colour < COLOURS && length >= LEAST_LENGTH && length <= MOST_LENGTH;
    }

    private static boolean canBeKnot(int sort, int turns) {
        if (sort == LONG) {
            return turns >= 2 && turns <= 9;
        }
        return (sort == SIMPLE || sort == EIGHT) && turns == 0;
    }

    // A KNOT is one int, its height foremost, so that rows of KNOTS rise as their heights do.

    private static int pack(int height, int sort, int turns) {
        return height << 6 | sort << 4 | turns;
    }

    private static int heightOf(int packed) {
        return packed >> 6;
    }

    private static int sortOf(int packed) {
        return packed >> 4 & 3;
    }

    private static int turnsOf(int packed) {
        return packed & 15;
    }

    /** How many of the n KNOTS that stand in a row from a place on are above a height. */
    private static int countAbove(int[] knots, int from, int n, int height) {
        int k = 0;
        while (k < n && heightOf(knots[from + k]) < height) {
            k++;
        }
        return k;
    }

    private static boolean isAt(int[] knots, int from, int n, int height) {
        int k = countAbove(knots, from, n, height);
        return k < n && heightOf(knots[from + k]) == height;
    }

    /** The caller has seen that there is room for one KNOT more, and none at its height. */
    private static void insertInto(int[] knots, int from, int n, int packed) {
        int k = countAbove(knots, from, n, heightOf(packed));
        System.arraycopy(knots, from + k, knots, from + k + 1, n - k);
        knots[from + k] = packed;
    }

    /** Makes n places of a row like another's; whether one of them was unlike. */
    private static boolean takeRow(int[] to, int[] like, int from, int n) {
        boolean other = false;
        for (int i = from; i < from + n; i++) {
            other |= to[i] != like[i];
            to[i] = like[i];
        }
        return other;
    }

    /** The CORDS of a RECORD with their KNOTS. */
    private static final class Cords {
        final int[] group = new int[CORDS];
        final int[] on = new int[CORDS];
        final int[] colour = new int[CORDS];
        final int[] length = new int[CORDS];
        final int[] tear = new int[CORDS];
        final int[] knots = new int[CORDS];
        final int[] tied = new int[CORDS * KNOTS];
        int size;

        boolean has(int c) {
            return c >= 0 && c < size;
        }

        /** How many CORDS one would be below that hung on c. */
        int aboveOneOn(int c) {
            int n = 0;
            int at = c;
            for (int i = 0; i <= MOST_ABOVE && has(at); i++) {
                n++;
                at = on[at];
            }
            return n;
        }

        /** How many hang on a CORD, or (NONE) on the main one. */
        int howManyOn(int c) {
            int n = 0;
            for (int d = 0; d < size; d++) {
                n += on[d] == c ? 1 : 0;
            }
            return n;
        }

        int howManyTorn() {
            int n = 0;
            for (int c = 0; c < size; c++) {
                n += tear[c] != UNTORN ? 1 : 0;
            }
            return n;
        }

        int allKnots() {
            int n = 0;
            for (int c = 0; c < size; c++) {
                n += knots[c];
            }
            return n;
        }

        int coloursOfGroup(int g, int[] into) {
            int n = 0;
            for (int c = 0; c < size; c++) {
                if (group[c] == g) {
                    into[n] = colour[c];
                    n++;
                }
            }
            return n;
        }

        /** Whether a height is on the CORD and ahead of its tear. */
        boolean isWhole(int c, int height) {
            return height >= 1 && height <= length[c] && (tear[c] == UNTORN || height < tear[c]);
        }

        boolean isFree(int c, int height) {
            return isWhole(c, height) && !isAt(tied, c * KNOTS, knots[c], height);
        }

        void insert(int c, int packed) {
            insertInto(tied, c * KNOTS, knots[c], packed);
            knots[c]++;
        }

        boolean remove(int c, int height) {
            int from = c * KNOTS;
            if (!isAt(tied, from, knots[c], height)) {
                return false;
            }
            int k = countAbove(tied, from, knots[c], height);
            System.arraycopy(tied, from + k + 1, tied, from + k, knots[c] - k - 1);
            knots[c]--;
            return true;
        }

        void cutAt(int c, int height) {
            tear[c] = height;
            knots[c] = countAbove(tied, c * KNOTS, knots[c], height);
        }

        boolean becomeLike(Cords like) {
            boolean other = size != like.size;
            size = like.size;
            other |= takeRow(group, like.group, 0, size);
            other |= takeRow(on, like.on, 0, size);
            other |= takeRow(colour, like.colour, 0, size);
            other |= takeRow(length, like.length, 0, size);
            other |= takeRow(tear, like.tear, 0, size);
            other |= takeRow(knots, like.knots, 0, size);
            for (int c = 0; c < size; c++) {
                other |= takeRow(tied, like.tied, c * KNOTS, knots[c]);
            }
            return other;
        }
    }

    /** The SUMS of a RECORD. */
    private static final class Sums {
        final int[] whole = new int[SUMS];
        final int[] parts = new int[SUMS];
        final int[] cords = new int[SUMS * PARTS];
        int size;

        void begin(int c) {
            whole[size] = c;
            parts[size] = 0;
            size++;
        }

        int partOf(int s, int p) {
            return cords[s * PARTS + p];
        }

        boolean holds(int s, int c) {
            boolean held = whole[s] == c;
            for (int p = 0; p < parts[s]; p++) {
                held |= partOf(s, p) == c;
            }
            return held;
        }

        void addPart(int s, int c) {
            cords[s * PARTS + parts[s]] = c;
            parts[s]++;
        }

        boolean counts(int s) {
            return parts[s] >= LEAST_PARTS;
        }

        /** The whole and the parts as bits. */
        long asBits(int s) {
            long bits = 1L << whole[s];
            for (int p = 0; p < parts[s]; p++) {
                bits |= 1L << partOf(s, p);
            }
            return bits;
        }

        boolean becomeLike(Sums like) {
            boolean other = size != like.size;
            size = like.size;
            other |= takeRow(whole, like.whole, 0, size);
            other |= takeRow(parts, like.parts, 0, size);
            for (int s = 0; s < size; s++) {
                other |= takeRow(cords, like.cords, s * PARTS, parts[s]);
            }
            return other;
        }
    }

    /** Goes along a CORD's KNOTS and tells each CLUSTER at its last KNOT. */
    private static final class ClusterWalk {
        boolean simple;
        int place;
        int worth;
        private int begun;

        void begin() {
            begun = 0;
        }

        /** False: the KNOT behind KNOT k is of one CLUSTER with it. */
        boolean endsAt(Cords cords, int c, int k) {
            int from = c * KNOTS;
            int here = cords.tied[from + k];
            int sort = sortOf(here);
            simple = sort == SIMPLE;
            if (simple && k + 1 < cords.knots[c]) {
                int behind = cords.tied[from + k + 1];
                if (sortOf(behind) == SIMPLE && heightOf(behind) - heightOf(here) <= CLOSE) {
                    return false;
                }
            }
            place = (heightOf(cords.tied[from + begun]) + heightOf(here)) / 2;
            worth = simple ? k - begun + 1 : sort == LONG ? turnsOf(here) : 1;
            begun = k + 1;
            return true;
        }
    }

    /** The LEVELS of a RECORD and what its CORDS read as. */
    private static final class Reading {
        final int[] first = new int[DIGITS];
        final int[] last = new int[DIGITS];
        final int[] counts = new int[DIGITS];
        final int[] members = new int[DIGITS];
        final int[] clusters = new int[CORDS];
        final int[] fault = new int[CORDS];
        final int[] value = new int[CORDS];
        final int[] lost = new int[CORDS];
        private final int[] atPlace = new int[MOST_LENGTH + 1];
        private final ClusterWalk walk = new ClusterWalk();
        private boolean knotted;
        boolean units;
        int levels;

        void read(Cords cords, int gap) {
            countPlaces(cords);
            findLevels(gap);
            if (levels == 0) {
                readWithoutLevels();
                return;
            }
            countLevels();
            for (int c = 0; c < cords.size; c++) {
                readCord(cords, c);
            }
        }

        int told(int c) {
            return fault[c] == 0 ? value[c] : -10 - fault[c];
        }

        int ownLeast(int c) {
            return fault[c] == 0 ? value[c] : 0;
        }

        int ownGreatest(int c) {
            return fault[c] == 0 ? value[c] + lost[c] : MOST_NUMBER;
        }

        int howManyFaults(int size) {
            int n = 0;
            for (int c = 0; c < size; c++) {
                n += fault[c] != 0 ? 1 : 0;
            }
            return n;
        }

        private void countPlaces(Cords cords) {
            Arrays.fill(atPlace, 0);
            Arrays.fill(clusters, 0);
            knotted = false;
            units = false;
            for (int c = 0; c < cords.size; c++) {
                walk.begin();
                for (int k = 0; k < cords.knots[c]; k++) {
                    if (walk.endsAt(cords, c, k)) {
                        atPlace[walk.place]++;
                        clusters[c]++;
                        knotted = true;
                        units |= !walk.simple;
                    }
                }
            }
        }

        private void findLevels(int gap) {
            levels = 0;
            for (int h = 1; h <= MOST_LENGTH; h++) {
                if (atPlace[h] == 0) {
                    continue;
                }
                if (levels == 0 || h - last[levels - 1] > gap) {
                    if (levels == mostLevels()) {
                        levels = 0;
                        return;
                    }
                    first[levels] = h;
                    members[levels] = 0;
                    levels++;
                }
                last[levels - 1] = h;
                members[levels - 1] += atPlace[h];
            }
        }

        private int mostLevels() {
            return units ? DIGITS : DIGITS - 1;
        }

        private void countLevels() {
            int worth = units ? 1 : 10;
            for (int l = levels - 1; l >= 0; l--) {
                counts[l] = worth;
                worth *= 10;
            }
        }

        private void readCord(Cords cords, int c) {
            boolean tooMany = false;
            boolean twice = false;
            boolean astray = false;
            int seen = 0;
            int together = 0;
            walk.begin();
            for (int k = 0; k < cords.knots[c]; k++) {
                if (!walk.endsAt(cords, c, k)) {
                    continue;
                }
                int l = levelOf(walk.place);
                tooMany |= walk.simple && walk.worth > 9;
                twice |= (seen >> l & 1) != 0;
                astray |= walk.simple == (units && l == levels - 1);
                seen |= 1 << l;
                // what is left of a CLUSTER in a lost LEVEL is no digit
                together += isLost(l, cords.tear[c]) ? 0 : walk.worth * counts[l];
            }
            fault[c] = tooMany ? 2 : twice ? 3 : astray ? 4 : 0;
            value[c] = fault[c] == 0 ? together : 0;
            lost[c] = fault[c] == 0 ? lostOf(cords.tear[c]) : 0;
        }

        /** Without LEVELS only KNOTS make a FAULT, on whichever CORD they are. */
        private void readWithoutLevels() {
            Arrays.fill(fault, knotted ? 1 : 0);
            Arrays.fill(value, 0);
            Arrays.fill(lost, 0);
        }

        /** What nines in all lost digits are together. */
        private int lostOf(int tear) {
            int together = 0;
            for (int l = 0; l < levels; l++) {
                if (isLost(l, tear)) {
                    together += 9 * counts[l];
                }
            }
            return !units && isLost(levels - 1, tear) ? together + 9 : together;
        }

        private boolean isLost(int l, int tear) {
            return tear != UNTORN && last[l] >= tear;
        }

        private int levelOf(int place) {
            int l = 0;
            while (l < levels - 1 && place > last[l]) {
                l++;
            }
            return l;
        }
    }

    /** A RECORD: what it holds, what it reads as, and the SPANS it was settled to. */
    private static final class KnotRecord {
        final Cords cords = new Cords();
        final Sums sums = new Sums();
        final int[] low = new int[CORDS];
        final int[] high = new int[CORDS];
        final Reading reading = new Reading();
        int gap = FIRST_GAP;
        boolean settled;
        private boolean isRead;

        void changed() {
            isRead = false;
            settled = false;
        }

        /** KNOTS are tried that may not stay: the SPANS told hold until they do. */
        void readAgain() {
            isRead = false;
        }

        Reading readNow() {
            if (!isRead) {
                reading.read(cords, gap);
                isRead = true;
            }
            return reading;
        }

        // What follows takes the reading as it is, so that no call stands too deep: the call
        // from outside has had it read.

        boolean isSound(int c) {
            return cords.tear[c] == UNTORN && reading.fault[c] == 0;
        }

        int addCord(int group, int on, int colour, int length) {
            int c = cords.size;
            if (c >= CORDS) {
                return FULL;
            }
            cords.group[c] = group;
            cords.on[c] = on;
            cords.colour[c] = colour;
            cords.length[c] = length;
            cords.tear[c] = UNTORN;
            cords.knots[c] = 0;
            cords.size++;
            changed();
            return c;
        }

        void makeEmpty() {
            cords.size = 0;
            sums.size = 0;
            gap = FIRST_GAP;
            changed();
        }

        void becomeLike(KnotRecord like) {
            boolean other = gap != like.gap;
            gap = like.gap;
            other |= cords.becomeLike(like.cords);
            other |= sums.becomeLike(like.sums);
            if (other) {
                changed();
            }
        }

        int keepsSum(int s) {
            int whole = sums.whole[s];
            if (!sums.counts(s) || !isSound(whole)) {
                return NONE;
            }
            int together = 0;
            for (int p = 0; p < sums.parts[s]; p++) {
                int c = sums.partOf(s, p);
                if (!isSound(c)) {
                    return NONE;
                }
                together += reading.value[c];
            }
            return together == reading.value[whole] ? 1 : 0;
        }

        void keepSpans(Rounds rounds) {
            System.arraycopy(rounds.low, 0, low, 0, cords.size);
            System.arraycopy(rounds.high, 0, high, 0, cords.size);
            settled = true;
        }
    }

    /** The rounds that make SPANS closer. */
    private static final class Rounds {
        final int[] low = new int[CORDS];
        final int[] high = new int[CORDS];
        private final int[] nextLow = new int[CORDS];
        private final int[] nextHigh = new int[CORDS];
        int done;
        int broken;

        /** How many rounds changed something, NONE or SPENT; CORDS a and b may be any number. */
        int run(KnotRecord x, int a, int b) {
            takeOwnSpans(x, a, b);
            for (int i = 1; i <= ROUNDS; i++) {
                done = i;
                if (!doRound(x)) {
                    return i - 1;
                }
                broken = firstNone(x.cords.size);
                if (broken != NONE) {
                    return NONE;
                }
            }
            return SPENT;
        }

        private void takeOwnSpans(KnotRecord x, int a, int b) {
            Reading reading = x.reading;
            broken = NONE;
            for (int c = 0; c < x.cords.size; c++) {
                boolean any = c == a || c == b;
                low[c] = any ? 0 : reading.ownLeast(c);
                high[c] = any ? MOST_NUMBER : reading.ownGreatest(c);
            }
        }

        private boolean doRound(KnotRecord x) {
            int n = x.cords.size;
            System.arraycopy(low, 0, nextLow, 0, n);
            System.arraycopy(high, 0, nextHigh, 0, n);
            for (int s = 0; s < x.sums.size; s++) {
                if (x.sums.counts(s)) {
                    narrow(x.sums, s);
                }
            }
            boolean other = takeRow(low, nextLow, 0, n);
            return takeRow(high, nextHigh, 0, n) || other;
        }

        private void narrow(Sums sums, int s) {
            int least = 0;
            int greatest = 0;
            for (int p = 0; p < sums.parts[s]; p++) {
                least += low[sums.partOf(s, p)];
                greatest += high[sums.partOf(s, p)];
            }
            int whole = sums.whole[s];
            keepWithin(whole, least, greatest);
            for (int p = 0; p < sums.parts[s]; p++) {
                int c = sums.partOf(s, p);
                keepWithin(c, low[whole] - (greatest - high[c]), high[whole] - (least - low[c]));
            }
        }

        private void keepWithin(int c, int least, int greatest) {
            if (nextLow[c] < least) {
                nextLow[c] = least;
            }
            if (nextHigh[c] > greatest) {
                nextHigh[c] = greatest;
            }
        }

        private int firstNone(int n) {
            for (int c = 0; c < n; c++) {
                if (low[c] > high[c]) {
                    return c;
                }
            }
            return NONE;
        }
    }

    /** The fewest CORDS that must be wrong, by the latest search that had an end in a CURE. */
    private static final class Cure {
        private final long[] blamed = new long[CORDS];
        private int size;
        private int first;
        private int second;

        int cordAt(int i) {
            if (i < 0 || i >= size) {
                return NONE;
            }
            return i == 0 ? first : second;
        }

        int seek(KnotRecord x, Rounds rounds) {
            if (rounds.run(x, NONE, NONE) != NONE) {
                return keep(0, NONE, NONE);
            }
            long reach = reachOfBreak(x, rounds);
            for (int a = 0; a < x.cords.size; a++) {
                blamed[a] = reach;
                if (!isIn(reach, a)) {
                    continue;
                }
                if (rounds.run(x, a, NONE) != NONE) {
                    return keep(1, a, NONE);
                }
                blamed[a] = reachOfBreak(x, rounds);
            }
            return seekPair(x, rounds);
        }

        // A break comes of CORDS within its reach alone, so whatever mends it has one of them:
        // b must be within the reach of the break that is left with a, and a of that with b.
        private int seekPair(KnotRecord x, Rounds rounds) {
            for (int a = 0; a < x.cords.size; a++) {
                for (int b = a + 1; b < x.cords.size; b++) {
                    boolean mayMend = isIn(blamed[a], b) && isIn(blamed[b], a);
                    if (mayMend && rounds.run(x, a, b) != NONE) {
                        return keep(2, a, b);
                    }
                }
            }
            return NONE;
        }

        private int keep(int n, int a, int b) {
            size = n;
            first = a;
            second = b;
            return n;
        }

        private static boolean isIn(long bits, int c) {
            return (bits >> c & 1L) != 0;
        }

        /** The CORDS, as bits, whose OWN SPANS can have come to the broken one in the rounds done. */
        private static long reachOfBreak(KnotRecord x, Rounds rounds) {
            long reach = rounds.broken == NONE ? 0L : 1L << rounds.broken;
            for (int i = 0; i < rounds.done; i++) {
                long wider = widen(x.sums, reach);
                if (wider == reach) {
                    return reach;
                }
                reach = wider;
            }
            return reach;
        }

        private static long widen(Sums sums, long reach) {
            long wider = reach;
            for (int s = 0; s < sums.size; s++) {
                long bits = sums.asBits(s);
                if (sums.counts(s) && (bits & reach) != 0) {
                    wider |= bits;
                }
            }
            return wider;
        }
    }

    /** The GROUPINGS of the latest search. */
    private static final class Groupings {
        final int[] whole = new int[GROUPINGS];
        final int[] set = new int[GROUPINGS];
        int size;
        private final int[] members = new int[GROUPS];
        private final int[] numbers = new int[GROUPS * CORDS];
        private int unsound;

        int seek(KnotRecord x) {
            size = 0;
            gather(x);
            for (int g = 0; g < GROUPS; g++) {
                if (canBeWhole(g) && !seekSets(g)) {
                    size = 0;
                    return FULL;
                }
            }
            return size;
        }

        private void gather(KnotRecord x) {
            Arrays.fill(members, 0);
            unsound = 0;
            for (int c = 0; c < x.cords.size; c++) {
                int g = x.cords.group[c];
                if (g == NONE) {
                    continue;
                }
                if (!x.isSound(c)) {
                    unsound |= 1 << g;
                }
                numbers[g * CORDS + members[g]] = x.reading.value[c];
                members[g]++;
            }
        }

        private boolean isUsable(int g) {
            return members[g] > 0 && (unsound >> g & 1) == 0;
        }

        private boolean canBeWhole(int g) {
            int any = 0;
            for (int i = 0; i < members[g]; i++) {
                any |= numbers[g * CORDS + i];
            }
            return isUsable(g) && any != 0;
        }

        /** False: there are more GROUPINGS than are told. */
        private boolean seekSets(int g) {
            int mates = matesOf(g);
            int sets = 1 << Integer.bitCount(mates);
            int bits = 0;
            for (int i = 1; i < sets; i++) {
                // the next greater number whose bits are all among the mates'
                bits = (bits - mates) & mates;
                if (Integer.bitCount(bits) < LEAST_PARTS || !addsUp(g, bits)) {
                    continue;
                }
                if (size == GROUPINGS) {
                    return false;
                }
                whole[size] = g;
                set[size] = bits;
                size++;
            }
            return true;
        }

        private int matesOf(int g) {
            int mates = 0;
            for (int h = 0; h < GROUPS; h++) {
                if (h != g && isUsable(h) && members[h] == members[g]) {
                    mates |= 1 << h;
                }
            }
            return mates;
        }

        private boolean addsUp(int g, int bits) {
            for (int i = 0; i < members[g]; i++) {
                int together = 0;
                for (int h = 0; h < GROUPS; h++) {
                    together += (bits >> h & 1) != 0 ? numbers[h * CORDS + i] : 0;
                }
                if (together != numbers[g * CORDS + i]) {
                    return false;
                }
            }
            return true;
        }
    }

    /** Knots a CORD anew, and undoes it where something would read otherwise than it should. */
    private static final class Knotter {
        private final int[] planned = new int[KNOTS];
        private final int[] before = new int[KNOTS];
        private final int[] toldDue = new int[CORDS];
        private int size;

        /** False, and nothing changed: a CORD would read otherwise than it should. */
        boolean knotAsPlanned(KnotRecord x, int c, int number) {
            Cords cords = x.cords;
            for (int d = 0; d < cords.size; d++) {
                toldDue[d] = d == c ? number : x.reading.told(d);
            }
            int n = cords.knots[c];
            System.arraycopy(cords.tied, c * KNOTS, before, 0, n);
            boolean other = put(x, c, planned, size);
            x.readNow();
            if (!readsAsDue(x)) {
                put(x, c, before, n);
                return false;
            }
            if (other) {
                x.changed();
            }
            return true;
        }

        /** Gives a CORD the first n KNOTS of a row; whether it had others. */
        private static boolean put(KnotRecord x, int c, int[] knots, int n) {
            boolean other = x.cords.knots[c] != n;
            x.cords.knots[c] = n;
            for (int k = 0; k < n; k++) {
                other |= x.cords.tied[c * KNOTS + k] != knots[k];
                x.cords.tied[c * KNOTS + k] = knots[k];
            }
            x.readAgain();
            return other;
        }

        private boolean readsAsDue(KnotRecord x) {
            for (int d = 0; d < x.cords.size; d++) {
                if (x.reading.told(d) != toldDue[d]) {
                    return false;
                }
            }
            return true;
        }

        /** False: the number has no KNOTS at these LEVELS on a CORD of this length. */
        boolean plan(Reading reading, int length, int number) {
            size = 0;
            if (reading.levels == 0 || !reading.units && number % 10 != 0) {
                return false;
            }
            int rest = reading.units ? number : number / 10;
            for (int l = reading.levels - 1; l >= 0; l--) {
                int digit = rest % 10;
                rest /= 10;
                boolean isUnits = reading.units && l == reading.levels - 1;
                if (!planDigit(reading.first[l], isUnits, digit, length)) {
                    return false;
                }
            }
            return rest == 0;
        }

        private boolean planDigit(int place, boolean isUnits, int digit, int length) {
            if (digit == 0) {
                return true;
            }
            if (isUnits) {
                return planKnot(place, digit == 1 ? EIGHT : LONG, digit == 1 ? 0 : digit, length);
            }
            int height = place - TIED_APART * (digit - 1) / 2;
            for (int i = 0; i < digit; i++) {
                if (!planKnot(height + TIED_APART * i, SIMPLE, 0, length)) {
                    return false;
                }
            }
            return true;
        }

        private boolean planKnot(int height, int sort, int turns, int length) {
            if (size >= KNOTS || height < 1 || height > length || isAt(planned, 0, size, height)) {
                return false;
            }
            insertInto(planned, 0, size, pack(height, sort, turns));
            size++;
            return true;
        }
    }
}

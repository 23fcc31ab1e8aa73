/** Ties numbers at usual heights: hundreds of thousands about 60, .. tens about 300, units at 360. */
final class Writing {
    private Writing() {
    }

    /** A CORD more on the main one that holds a number. */
    static int cord(CordHouse x, int r, int group, int colour, int number) {
        int c = x.cord(r, group, colour, 420);
        write(x, r, c, number);
        return c;
    }

    static void write(CordHouse x, int r, int c, int number) {
        int worth = 100000;
        for (int place = 60; place <= 300; place += 60) {
            simple(x, r, c, place, number / worth % 10);
            worth /= 10;
        }
        int units = number % 10;
        if (units == 1) {
            x.knot(r, c, 360, 2, 0);
        } else if (units > 1) {
            x.knot(r, c, 360, 1, units);
        }
    }

    /** SIMPLE KNOTS, 2 apart, whose CLUSTER's PLACE is the one asked for. */
    static void simple(CordHouse x, int r, int c, int place, int n) {
        for (int i = 0; i < n; i++) {
            x.knot(r, c, place - (n - 1) + 2 * i, 0, 0);
        }
    }

    /** A SUM of a whole and parts. */
    static void sum(CordHouse x, int r, int whole, int... parts) {
        x.sum(r, whole);
        for (int p : parts) {
            x.part(r, p);
        }
    }
}

/** Where the draws lead: which numbers to tell as z, so that the road shows a field when a test wants it to, or not. */
final class Road {
    private static final int WEEKS = 400, NUMBERS = 10000000;

    private Road() {
    }

    static int drawn(int z) {
        return z * 1103515245 + 12345;
    }

    /** In which week from now on the road first leads to that place and that field; 400: not by then. */
    private static int weekOf(int v, int place, int field) {
        int z = v;
        for (int week = 0; week < WEEKS; week++) {
            int first = drawn(z);
            z = drawn(first);
            if ((first >>> 8) % 8 == place && (z >>> 8) % 6 == field) {
                return week;
            }
        }
        return WEEKS;
    }

    /** From 0 on, the first number by which it first leads there within these weeks. */
    static int within(int place, int field, int least, int most) {
        for (int v = 0; v < NUMBERS; v++) {
            int week = weekOf(v, place, field);
            if (week >= least && week <= most) {
                return v;
            }
        }
        throw new IllegalArgumentException("no such number");
    }

    /** By which it leads there at once. */
    static int to(int place, int field) {
        return within(place, field, 0, 0);
    }

    /** By which it does not lead there for ten weeks. */
    static int notTo(int place, int field) {
        return within(place, field, 10, WEEKS);
    }
}

/** What rows hold, found by calls alone, since no call tells of an item by itself. */
final class Rows {
    /** All items that can't be told apart: no set of twelve deeds, and not -1. */
    static final long OTHER = 4096;
    /** By these deeds a row that is taken as years tells each of its bits, one deed a call. */
    static final String BITS = "pL,pK,pJ,pI,pH,pG,pF,pE,pD,pC,pB,pA";
    private static final int DEEDS = 12;

    private Rows() {
    }

    /** Bits below the first so many of an item, if it has no others than of deeds; the year is BITS. */
    static long bits(BackYear x, int sheet, int lane, int i, int many) {
        long found = 0;
        for (int d = 0; d < many; d++) {
            // Each deed is of a day ahead of all those of lesser numbers: it can need none, and has one net if it stood.
            int nets = x.net(d, sheet, lane, i, 1, 0);
            if (nets < 0) {
                return OTHER;
            }
            found |= (long) nets << d;
        }
        return found;
    }

    /** Item i: 0 to 4095, -1, or OTHER. All stays as it is, but for the image, the tape and one other sheet. */
    static long read(BackYear x, int sheet, int lane, int i) {
        x.image();
        Check.text(x, BITS);
        long found = bits(x, sheet, lane, i, DEEDS);
        if (found == OTHER && isNothing(x, sheet, lane, i)) {
            found = -1;
        }
        x.restore();
        return found;
    }

    /** Whether it is -1, since that alone is nothing in a walk by which no deed can be righted. */
    private static boolean isNothing(BackYear x, int sheet, int lane, int i) {
        int other = sheet == 3 ? 2 : 3;
        x.sheet(other, lane, DEEDS);
        for (int k = 1; k < DEEDS; k++) {
            x.item(other, lane, k, -1);
        }
        x.copy(sheet, i, other, 0, 1);
        boolean nothing = x.judged(other, lane, 0) == BackYear.NONE;
        x.drop(other);
        return nothing;
    }
}

import java.util.Arrays;

/** Promises 30 to 36: rows judged, nets, films, and the sheets themselves. */
public final class SheetsTest {
    private static final Check CHECK = new Check("SheetsTest");
    private static final long OTHER = Rows.OTHER;

    private SheetsTest() {
    }

    private static void due(String call, long got, long want) {
        CHECK.due(call, got, want);
    }

    /** Twelve items: nothing, but for some places, told in twos: place, deed. */
    private static long[] walk(long... chosen) {
        long[] items = new long[12];
        Arrays.fill(items, -1);
        for (int i = 0; i < chosen.length; i += 2) {
            items[(int) chosen[i]] = chosen[i + 1];
        }
        return items;
    }

    private static void judged(String what, BackYear x, int want, long... chosen) {
        for (int lane = 0; lane < 4; lane++) {
            Check.row(x, 2, lane, walk(chosen));
            due("30 " + what + ", lane " + lane, x.judged(2, lane, 0), want);
        }
    }

    private static BackYear toWalk() {
        return Check.of(2, "pA,pKa,sKa,hLb,pL,hLc");
    }

    private static void promise30() {
        judged("nothing", toWalk(), -4);
        judged("one a day", toWalk(), -4, 0, 4, 1, 1, 11, 0);
        judged("the other of that day", toWalk(), -4, 0, 3);
        judged("does not stand", toWalk(), 1, 0, 4, 1, 2);
        judged("does not stand, though it would by then", toWalk(), 0, 0, 5);
        judged("of another day", toWalk(), 0, 0, 1);
        judged("of another day, later", toWalk(), 10, 1, 1, 10, 0);
        judged("at the end", toWalk(), 11, 11, 1);
        judged("no such deed", toWalk(), 5, 5, 6);
        judged("far off", toWalk(), 5, 5, 100);
        judged("below -1", toWalk(), 7, 7, -2);
        judged("the first of two", toWalk(), 3, 3, 0, 4, 0);
        BackYear x = toWalk();
        x.last(32);
        judged("last year counts", x, -4, 0, 5);
        x.right(4);
        judged("what is righted now counts for nothing", x, -4, 0, 4);
        Check.row(x, 0, 3, walk(0, 1L << 32 | 4));
        due("30 not by its lowest bits", x.judged(0, 3, 0), 0);
        Check.row(x, 0, 3, walk(0, 0xFFFFFFFFL));
        due("30 -1 not by its lowest bits", x.judged(0, 3, 0), 0);
        Check.row(x, 0, 3, walk(0, Long.MIN_VALUE | 4));
        due("30 far below 0", x.judged(0, 3, 0), 0);
    }

    private static void promise30rows() {
        BackYear x = Check.of(2, "pL");
        x.sheet(0, 2, 16);
        for (int i = 0; i < 16; i++) {
            x.item(0, 2, i, i < 4 ? 7 : i == 4 ? 0 : -1);
        }
        due("30 from item 0 on", x.judged(0, 2, 0), 0);
        due("30 from item 4 on", x.judged(0, 2, 4), -4);
        due("30 from item 3 on", x.judged(0, 2, 3), 0);
        due("30 from item 5 on", x.judged(0, 2, 5), -13);
        due("30 from item -1 on", x.judged(0, 2, -1), -13);
        due("30 far off", x.judged(0, 2, Integer.MAX_VALUE), -13);
        due("30 another lane", x.judged(0, 1, 0), -12);
        due("30 another lane ahead of the index", x.judged(0, 1, 5), -12);
        due("30 no row", x.judged(1, 2, 0), -11);
        due("30 sheet 4", x.judged(4, 2, 0), -1);
        due("30 sheet -1", x.judged(-1, 2, 0), -1);
        due("30 lane 4", x.judged(0, 4, 0), -1);
        due("30 lane -1", x.judged(0, -1, 0), -1);
        due("30 bad ahead of null", x.judged(1, 4, 0), -1);
        x.sheet(0, 2, 11);
        due("30 eleven items", x.judged(0, 2, 0), -13);
    }

    private static void net(String what, BackYear x, int deed, int many, int least, long... years) {
        Check.row(x, 1, 1, years);
        due("31 " + what + ": how many", x.net(deed, 1, 1, 0, years.length, 0), many);
        due("31 " + what + ": least", x.net(deed, 1, 1, 0, years.length, 1), least);
    }

    private static void promise31() {
        BackYear x = Check.of(2, "pA,pB,pD,pC,aC,sC,hC");
        net("plain: both, or the later one not at all", x, 3, 1, 3, 8 | 3, 1, 2);
        net("plain: a, or a and b", x, 3, 2, 1, 8 | 3, 2);
        net("plain: none", x, 3, 1, 0, 8);
        net("plain: not both", x, 3, 0, -4, 0, 8);
        net("any: a, and b or d at will", x, 4, 4, 1, 16 | 1, 16 | 9, 0);
        net("any: a with b or d or both, or none", x, 4, 4, 0, 16 | 1, 16 | 2 | 8, 16 | 8 | 1);
        net("spite: not of a, needs b", x, 5, 4, 2, 32 | 1, 2);
        net("spite: never", x, 5, 0, -4, 0);
        net("habit as any", x, 6, 1, 1, 64 | 1, 2 | 8, 16, 32);
        x.last(64);
        net("habit as any, though it is of last year", x, 6, 1, 1, 64 | 1, 2 | 8, 16, 32);
        net("of no later number or day", x, 0, 1, 0, 1, 127);
        net("of no later number or day", x, 0, 0, -4, 1, 126);
        net("a later day is of no help", x, 3, 0, -4, 8 | 4, 0);
        net("the same day is", x, 4, 1, 8, 16 | 8, 7);
        x.right(0);
        net("eight years", x, 1, 1, 1, 3, 3, 0, 0, 3, 0, 124, 127);
        BackYear y = new BackYear();
        for (int d = 0; d < 12; d++) {
            y.deed(1, 3, 0);
        }
        net("of twelve", y, 11, 2047, 1, 0);
        net("of twelve", y, 11, 1024, 1024, 1 << 11 | 1 << 10, 0);
    }

    private static void promise31refused() {
        BackYear x = Check.of(2, "pA,pB");
        Check.row(x, 0, 0, 3, 0, 4, -1, 0, 0, 0, 0, 3, 1);
        due("31 one year", x.net(1, 0, 0, 0, 1, 0), 2);
        due("31 from item 8 on", x.net(1, 0, 0, 8, 2, 0), 0);
        due("31 a deed that there is not", x.net(1, 0, 0, 0, 3, 0), -2);
        due("31 below 0", x.net(1, 0, 0, 3, 1, 0), -2);
        due("31 the last of these", x.net(1, 0, 0, 1, 2, 1), -2);
        due("31 deed 2", x.net(2, 0, 0, 0, 1, 0), -1);
        due("31 deed -1", x.net(-1, 0, 0, 0, 1, 0), -1);
        due("31 sheet 4", x.net(0, 4, 0, 0, 1, 0), -1);
        due("31 sheet -1", x.net(0, -1, 0, 0, 1, 0), -1);
        due("31 lane 4", x.net(0, 0, 4, 0, 1, 0), -1);
        due("31 lane -1", x.net(0, 0, -1, 0, 1, 0), -1);
        due("31 n 0", x.net(0, 0, 0, 0, 0, 0), -1);
        due("31 n 9", x.net(0, 0, 0, 0, 9, 0), -1);
        due("31 n -1", x.net(0, 0, 0, 0, -1, 0), -1);
        due("31 what 2", x.net(0, 0, 0, 0, 1, 2), -1);
        due("31 what -1", x.net(0, 0, 0, 0, 1, -1), -1);
        due("31 bad ahead of null", x.net(2, 1, 0, 0, 1, 0), -1);
        due("31 no row", x.net(0, 1, 0, 0, 1, 0), -11);
        due("31 another lane", x.net(0, 0, 1, 0, 1, 0), -12);
        due("31 another lane ahead of the index", x.net(0, 0, 1, 10, 1, 0), -12);
        due("31 index 10", x.net(0, 0, 0, 10, 1, 0), -13);
        due("31 index 3 of 8", x.net(0, 0, 0, 3, 8, 0), -13);
        due("31 index -1", x.net(0, 0, 0, -1, 1, 0), -13);
        due("31 index far off", x.net(0, 0, 0, Integer.MAX_VALUE, 8, 0), -13);
        Check.row(x, 0, 3, 1L << 32 | 3, 1L << 63, 3);
        due("31 not by its lowest bits", x.net(1, 0, 3, 0, 1, 0), -2);
        due("31 far below 0", x.net(1, 0, 3, 1, 1, 0), -2);
        due("31 behind these", x.net(1, 0, 3, 2, 1, 0), 2);
    }

    private static void item(String what, BackYear x, int sheet, int lane, int i, long want) {
        due(what + ", item " + i + " of lane " + lane, Rows.read(x, sheet, lane, i), want);
    }

    private static BackYear toFilm() {
        BackYear x = Check.of(3, "pL,pK");
        Check.worths(x, 0, 4, -1, 0, 9);
        Check.worths(x, 1, 3, 0, 2, 9);
        return x;
    }

    private static void promise32() {
        for (int lane = 0; lane < 4; lane++) {
            BackYear x = toFilm();
            x.sheet(0, lane, 5);
            due("32 film, lane " + lane, x.film(0, lane, 1), 3);
            item("32 ahead of it", x, 0, lane, 0, 0);
            item("32 value 0", x, 0, lane, 1, 7);
            item("32 value 1", x, 0, lane, 2, -1);
            item("32 value 2", x, 0, lane, 3, 2);
            item("32 behind it", x, 0, lane, 4, 0);
        }
        BackYear x = toFilm();
        x.right(0);
        x.sheet(0, 0, 3);
        due("32 as all is", x.film(0, 0, 0), 3);
        item("32 value 0 less what it bears", x, 0, 0, 0, 2);
        item("32 value 1", x, 0, 0, 1, 0);
        due("32 no room", x.film(0, 0, 1), -13);
        item("32 refused, nothing changed", x, 0, 0, 1, 0);
        due("32 below 0", x.film(0, 0, -1), -13);
        due("32 far off", x.film(0, 0, Integer.MAX_VALUE), -13);
        due("32 another lane", x.film(0, 1, 1), -12);
        due("32 no row", x.film(1, 0, 0), -11);
        due("32 sheet 4", x.film(4, 0, 0), -1);
        due("32 sheet -1", x.film(-1, 0, 0), -1);
        due("32 lane 4", x.film(0, 4, 0), -1);
        due("32 lane -1", x.film(0, -1, 0), -1);
        x.people(1);
        due("32 one alone", x.film(0, 0, 2), 1);
        x.people(4);
        due("32 four", x.film(0, 0, 0), -13);
    }

    private static void promise33and34() {
        BackYear x = new BackYear();
        due("33 sheet", x.sheet(0, 0, 16), 16);
        due("33 none", x.sheet(3, 3, 0), 0);
        due("33 17", x.sheet(0, 0, 17), -1);
        due("33 far above", x.sheet(0, 0, Integer.MAX_VALUE), -1);
        due("33 -1", x.sheet(0, 0, -1), -14);
        due("33 far below", x.sheet(0, 0, Integer.MIN_VALUE), -14);
        due("33 sheet 4", x.sheet(4, 0, 1), -1);
        due("33 sheet -1", x.sheet(-1, 0, 1), -1);
        due("33 lane 4", x.sheet(0, 4, 1), -1);
        due("33 lane -1", x.sheet(0, -1, 1), -1);
        due("33 bad ahead of size", x.sheet(0, 4, -1), -1);
        due("33 refused: the row stays", x.item(0, 0, 15, 7), 1);
        due("33 a new row", x.sheet(0, 0, 2), 2);
        due("33 as long as told", x.item(0, 0, 2, 7), -13);
        due("33 a longer one", x.sheet(0, 0, 16), 16);
        item("33 all of it 0", x, 0, 0, 15, 0);
        x.item(0, 0, 0, 5);
        x.sheet(0, 1, 16);
        item("33 a new one in another lane", x, 0, 1, 0, 0);
        due("34 drop", x.drop(0), 16);
        due("34 drop it again", x.drop(0), -11);
        due("34 a row of none", x.drop(3), 0);
        due("34 sheet 4", x.drop(4), -1);
        due("34 sheet -1", x.drop(-1), -1);
        due("33 an empty one", x.sheet(1, 2, 0), 0);
        due("34 an empty one", x.drop(1), 0);
        due("34 never one", x.drop(2), -11);
        due("34 holds nothing", x.item(0, 0, 0, 1), -11);
    }

    private static void becomes(int lane, long v, long want) {
        BackYear x = new BackYear();
        x.sheet(0, lane, 3);
        due("35 item in lane " + lane + " becomes " + v, x.item(0, lane, 1, v), 1);
        item("35 " + v, x, 0, lane, 1, want);
        item("35 ahead of " + v, x, 0, lane, 0, 0);
        item("35 behind " + v, x, 0, lane, 2, 0);
    }

    private static void promise35() {
        becomes(0, 5, 5);
        becomes(0, 256 + 5, 5);
        becomes(0, 127, 127);
        becomes(0, 255, -1);
        becomes(0, -256, 0);
        becomes(0, 128, OTHER);
        becomes(1, 256 + 5, 261);
        becomes(1, 65536 + 5, 5);
        becomes(1, 65535, -1);
        becomes(1, 32768, OTHER);
        becomes(2, 65536, OTHER);
        becomes(2, (1L << 32) + 5, 5);
        becomes(2, (1L << 32) - 1, -1);
        becomes(3, (1L << 32) + 5, OTHER);
        becomes(3, (1L << 32) - 1, OTHER);
        becomes(3, -1, -1);
        becomes(3, 4095, 4095);
        BackYear x = new BackYear();
        x.sheet(0, 2, 3);
        due("35 index 3", x.item(0, 2, 3, 0), -13);
        due("35 index -1", x.item(0, 2, -1, 0), -13);
        due("35 another lane", x.item(0, 3, 3, 0), -12);
        due("35 no row", x.item(1, 3, 3, 0), -11);
        due("35 sheet 4", x.item(4, 2, 0, 0), -1);
        due("35 sheet -1", x.item(-1, 2, 0, 0), -1);
        due("35 lane 4", x.item(0, 4, 0, 0), -1);
        due("35 lane -1", x.item(0, -1, 0, 0), -1);
    }

    private static void copied(String what, int from, int i, int to, int j, int n, int... want) {
        BackYear x = new BackYear();
        Check.row(x, 0, 1, 0, 1, 2, 3, 4, 5, 6, 7);
        Check.row(x, 2, 1, 11, 11, 11, 11, 11, 11);
        due("36 " + what, x.copy(from, i, to, j, n), n);
        for (int k = 0; k < want.length; k++) {
            item("36 " + what, x, to, 1, k, want[k]);
        }
    }

    private static void promise36() {
        copied("to another", 0, 2, 2, 1, 3, 11, 2, 3, 4, 11, 11);
        copied("up", 0, 0, 0, 2, 5, 0, 1, 0, 1, 2, 3, 4, 7);
        copied("down", 0, 2, 0, 0, 5, 2, 3, 4, 5, 6, 5, 6, 7);
        copied("none", 0, 8, 2, 6, 0, 11, 11, 11, 11, 11, 11);
        copied("all", 2, 0, 0, 2, 6, 0, 1, 11, 11, 11, 11, 11, 11);
        BackYear x = new BackYear();
        x.sheet(0, 1, 8);
        x.sheet(2, 1, 6);
        x.sheet(3, 2, 6);
        due("36 too many", x.copy(0, 3, 2, 0, 6), -13);
        due("36 too many there", x.copy(0, 0, 2, 1, 6), -13);
        due("36 n -1", x.copy(0, 0, 2, 0, -1), -13);
        due("36 i -1", x.copy(0, -1, 2, 0, 1), -13);
        due("36 j -1", x.copy(0, 0, 2, -1, 1), -13);
        due("36 none, i -1", x.copy(0, -1, 2, 0, 0), -13);
        due("36 none, j -1", x.copy(0, 0, 2, -1, 0), -13);
        due("36 none, i 9", x.copy(0, 9, 2, 0, 0), -13);
        due("36 none, j 7", x.copy(0, 0, 2, 7, 0), -13);
        due("36 none, to itself", x.copy(0, 8, 0, 8, 0), 0);
        due("36 far off", x.copy(0, Integer.MAX_VALUE, 2, Integer.MAX_VALUE, Integer.MAX_VALUE), -13);
        due("36 n far off", x.copy(0, 1, 2, 1, Integer.MAX_VALUE), -13);
        due("36 n far below", x.copy(0, 0, 2, 0, Integer.MIN_VALUE), -13);
        due("36 unlike lanes", x.copy(0, 0, 3, 0, 1), -12);
        due("36 unlike lanes ahead of the index", x.copy(0, 0, 3, 0, -1), -12);
        due("36 from no row", x.copy(1, 0, 3, 0, 1), -11);
        due("36 to no row", x.copy(0, 0, 1, 0, 1), -11);
        due("36 from and to none", x.copy(1, 0, 1, 0, 0), -11);
        due("36 from 4", x.copy(4, 0, 1, 0, 1), -1);
        due("36 from -1", x.copy(-1, 0, 1, 0, 1), -1);
        due("36 to 4", x.copy(1, 0, 4, 0, 1), -1);
        due("36 to -1", x.copy(1, 0, -1, 0, 1), -1);
    }

    public static void main(String[] args) {
        promise30();
        promise30rows();
        promise31();
        promise31refused();
        promise32();
        promise33and34();
        promise35();
        promise36();
        CHECK.end();
    }
}

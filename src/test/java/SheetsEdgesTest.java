import java.util.Arrays;

/** Promises 30 to 36 at their edges, one sentence of the document after the other. */
public final class SheetsEdgesTest {
    private static final Check CHECK = new Check("SheetsEdgesTest");
    private static final int BAD = BackYear.BAD, NOT = BackYear.NOT, NONE = BackYear.NONE, NULL = BackYear.NULL,
        CAST = BackYear.CAST, INDEX = BackYear.INDEX, SIZE = BackYear.SIZE;
    private static final int MIN = Integer.MIN_VALUE, MAX = Integer.MAX_VALUE;
    private static final int PLAIN = 0, SPITE = 2;
    private static final String TWELVE = "pA,pB,pC,pD,pE,pF,pG,pH,pI,pJ,pK,pL";
    private static final String ROWS = "sheets 0 .. 3: nothing (at first), or a row of a LANE: 0 bytes, 1 shorts, 2 "
        + "ints, 3 longs (all with a sign), of 0 to 16 items.";
    private static final String ORDER = "(NULL, CAST, INDEX, SIZE in this order; INDEX also where no item is taken, if i, "
        + "j is below 0, or above how many there are)";
    private static final String FIRST = "Answers below 0, of several the first that a call names";
    private static final long OTHER = Rows.OTHER;
    private static final long[] LEAST = {Byte.MIN_VALUE, Short.MIN_VALUE, Integer.MIN_VALUE, Long.MIN_VALUE};
    private static final long[] MOST = {Byte.MAX_VALUE, Short.MAX_VALUE, Integer.MAX_VALUE, Long.MAX_VALUE};

    private SheetsEdgesTest() {
    }

    private static void due(String call, long got, long want) {
        CHECK.due(call, got, want);
    }

    private static void says(String where, String words) {
        CHECK.says(where, words);
    }

    private static void holds(String what, BackYear x, int sheet, int lane, int i, long want) {
        due(what + ": item " + i + " of sheet " + sheet + ", lane " + lane, Rows.read(x, sheet, lane, i), want);
    }

    // ---- the rows themselves

    private static void howMany() {
        says("Terms", ROWS);
        for (int sheet = 0; sheet <= 3; sheet++) {
            for (int lane = 0; lane <= 3; lane++) {
                BackYear x = new BackYear();
                due("nothing at first", x.drop(sheet), NULL);
                for (int n = 0; n <= 16; n++) {
                    due("sheet(" + sheet + ", " + lane + ", " + n + ")", x.sheet(sheet, lane, n), n);
                    due("its last item", x.item(sheet, lane, n - 1, 1), n == 0 ? INDEX : 1);
                    due("one behind it", x.item(sheet, lane, n, 1), INDEX);
                    due("of another lane", x.item(sheet, (lane + 1) % 4, 0, 1), CAST);
                    due("none of the other", x.item((sheet + 1) % 4, lane, 0, 1), NULL);
                }
                due("drop()", x.drop(sheet), 16);
                due("nothing then", x.drop(sheet), NULL);
                x.sheet(sheet, lane, 0);
                due("a row of none is a row", x.drop(sheet), 0);
                due("and is nothing then", x.drop(sheet), NULL);
                x.sheet(sheet, lane, 1);
                due("a row of one", x.drop(sheet), 1);
            }
        }
    }

    private static void sheetRefused() {
        says("Promise 33", "A SHEET holds a new row of a LANE: n. BAD: also n above 16; SIZE: n below 0.");
        BackYear x = new BackYear();
        x.sheet(0, 2, 16);
        x.item(0, 2, 15, 77);
        CHECK.beyond("sheet", sheet -> x.sheet(sheet, 0, 16), BAD, 0, 3);
        CHECK.beyond("sheet, none", sheet -> x.sheet(sheet, 3, 0), BAD, 0, 3);
        CHECK.beyond("lane", lane -> x.sheet(0, lane, 16), BAD, 0, 3);
        CHECK.beyond("lane, none", lane -> x.sheet(0, lane, 0), BAD, 0, 3);
        for (int n : new int[] {17, 18, 32, 33, 256, 65536, 1 << 30, MAX - 1, MAX}) {
            due("n " + n, x.sheet(0, 2, n), BAD);
            due("n " + n + " of another lane", x.sheet(0, 1, n), BAD);
        }
        for (int n : new int[] {-1, -2, -16, -256, -65536 + 1, MIN + 1, MIN, MIN + 16}) {
            due("n " + n, x.sheet(0, 2, n), SIZE);
            due("n " + n + " of another lane", x.sheet(0, 1, n), SIZE);
            due("n " + n + " of one that holds nothing", x.sheet(1, 1, n), SIZE);
        }
        due("refused, it holds nothing still", x.drop(1), NULL);
        holds("refused, the row stays", x, 0, 2, 15, 77);
        due("refused, as long as it was", x.item(0, 2, 16, 0), INDEX);
        says("Terms", FIRST);
        due("sheet 4, n -1", x.sheet(4, 0, -1), BAD);
        due("sheet -1, n -1", x.sheet(-1, 0, -1), BAD);
        due("lane 4, n -1", x.sheet(0, 4, -1), BAD);
        due("lane -1, n least", x.sheet(0, -1, MIN), BAD);
        due("sheet 4, n 17", x.sheet(4, 0, 17), BAD);
    }

    private static void aNewRow() {
        says("Promise 33", "A SHEET holds a new row of a LANE: n.");
        for (int lane = 0; lane <= 3; lane++) {
            BackYear x = new BackYear();
            x.sheet(0, lane, 16);
            x.item(0, lane, 0, 5);
            x.item(0, lane, 15, 6);
            due("shorter", x.sheet(0, lane, 1), 1);
            holds("0 in a new one", x, 0, lane, 0, 0);
            due("no more than told", x.item(0, lane, 1, 1), INDEX);
            x.item(0, lane, 0, 5);
            due("longer again", x.sheet(0, lane, 16), 16);
            holds("0, too", x, 0, lane, 0, 0);
            holds("0, at its end", x, 0, lane, 15, 0);
            x.item(0, lane, 15, 9);
            x.drop(0);
            x.sheet(0, lane, 16);
            holds("0 behind a drop", x, 0, lane, 15, 0);
            x.item(0, lane, 15, 9);
            int other = (lane + 1) % 4;
            due("of another lane", x.sheet(0, other, 16), 16);
            holds("0 in another lane", x, 0, other, 15, 0);
            due("no more of the lane ahead", x.item(0, lane, 0, 1), CAST);
        }
    }

    private static void dropRefused() {
        says("Promise 34", "A SHEET holds nothing: how many items it had. BAD; NULL.");
        BackYear x = new BackYear();
        CHECK.beyond("sheet", sheet -> x.drop(sheet), BAD, 0, 3);
        due("nothing in the first", x.drop(0), NULL);
        due("nothing in the last", x.drop(3), NULL);
        x.sheet(0, 0, 3);
        x.sheet(3, 3, 16);
        CHECK.beyond("sheet", sheet -> x.drop(sheet), BAD, 0, 3);
        due("three", x.drop(0), 3);
        due("the other stays", x.drop(3), 16);
        due("nothing in the first", x.drop(0), NULL);
        due("nothing for an item", x.item(0, 0, 0, 1), NULL);
    }

    // ---- items

    private static void becomes(int lane, long v, long want) {
        BackYear x = new BackYear();
        x.sheet(2, lane, 3);
        x.item(2, lane, 0, 3);
        x.item(2, lane, 2, 3);
        due("item(2, " + lane + ", 1, " + v + ")", x.item(2, lane, 1, v), 1);
        holds("becomes " + v, x, 2, lane, 1, want);
        holds("ahead of it", x, 2, lane, 0, 3);
        holds("behind it", x, 2, lane, 2, 3);
    }

    private static void lowestBits() {
        says("Promise 35", "Item i of a SHEET, taken as a row of a LANE, becomes v, its lowest bits: 1.");
        long[] around = {1L << 8, 1L << 16, 1L << 32};
        for (int lane = 0; lane <= 2; lane++) {
            long round = around[lane];
            becomes(lane, round, 0);
            becomes(lane, -round, 0);
            becomes(lane, round - 1, -1);
            becomes(lane, -round - 1, -1);
            becomes(lane, round + 1, 1);
            becomes(lane, 7 - round, 7);
            becomes(lane, round / 2, OTHER);
            becomes(lane, round / 2 + 1, OTHER);
            becomes(lane, -round / 2 - 1, lane == 0 ? 127 : OTHER);
            becomes(lane, -round / 2, OTHER);
            becomes(lane, Long.MIN_VALUE, 0);
            becomes(lane, Long.MIN_VALUE + 5, 5);
            becomes(lane, Long.MAX_VALUE, -1);
            becomes(lane, Long.MAX_VALUE - 1, OTHER);
        }
        for (int lane = 0; lane <= 3; lane++) {
            becomes(lane, 0, 0);
            becomes(lane, -1, -1);
            becomes(lane, -2, OTHER);
            becomes(lane, 127, 127);
            becomes(lane, 128, lane == 0 ? OTHER : 128);
            becomes(lane, 255, lane == 0 ? -1 : 255);
            becomes(lane, 256, lane == 0 ? 0 : 256);
            becomes(lane, 4095, lane == 0 ? -1 : 4095);
            becomes(lane, 65535, lane <= 1 ? -1 : OTHER);
            becomes(lane, 65536, lane <= 1 ? 0 : OTHER);
            becomes(lane, (1L << 32) - 1, lane <= 2 ? -1 : OTHER);
            becomes(lane, 1L << 32, lane <= 2 ? 0 : OTHER);
            becomes(lane, LEAST[lane], OTHER);
            becomes(lane, MOST[lane], lane == 0 ? 127 : OTHER);
        }
        becomes(3, Long.MIN_VALUE, OTHER);
        becomes(3, Long.MAX_VALUE, OTHER);
    }

    private static void itemRefused() {
        says("Promise 35", "BAD; NULL; CAST; INDEX.");
        for (int n : new int[] {0, 1, 2, 15, 16}) {
            for (int l = 0; l <= 3; l++) {
                int lane = l;
                BackYear x = new BackYear();
                x.sheet(1, lane, n);
                CHECK.beyond("i of " + n, i -> x.item(1, lane, i, 5), INDEX, 0, n - 1);
                due("sheet 4", x.item(4, lane, 0, 5), BAD);
                due("sheet -1", x.item(-1, lane, 0, 5), BAD);
                for (int other = 0; other <= 3; other++) {
                    due("lane " + other, x.item(1, other, n, 5), other == lane ? INDEX : CAST);
                }
                for (int i = 0; i < n && i < 2; i++) {
                    holds("refused, as it was", x, 1, lane, i, 0);
                }
            }
        }
        BackYear x = new BackYear();
        x.sheet(3, 3, 16);
        CHECK.beyond("sheet", sheet -> x.item(sheet, 3, 0, 5), BAD, 0, 3);
        CHECK.beyond("lane", lane -> x.item(3, lane, 0, 5), BAD, 0, 3);
        due("no row", x.item(2, 3, 0, 5), NULL);
        says("Terms", FIRST);
        due("sheet 4, far off", x.item(4, 0, MAX, 5), BAD);
        due("lane 4, no row", x.item(2, 4, 0, 5), BAD);
        due("lane -1, another lane, far off", x.item(3, -1, MAX, 5), BAD);
        says("Terms", ORDER);
        due("no row, far off", x.item(2, 0, -1, 5), NULL);
        due("another lane, far off", x.item(3, 0, MAX, 5), CAST);
        due("another lane, below 0", x.item(3, 0, -1, 5), CAST);
        due("the last", x.item(3, 3, 15, 5), 1);
    }

    // ---- rows judged

    private static long[] nothing(int n) {
        long[] row = new long[n];
        Arrays.fill(row, -1);
        return row;
    }

    private static void whichDayAndDeed() {
        says("Promise 30", "of DAYS 11, 10 .. 0 a DEED to be RIGHTED, or -1 for nothing: the first place at which that "
            + "can't be, as a WALK goes (0 .. 11).");
        for (int place = 0; place < 12; place++) {
            for (int d = -2; d <= 12; d++) {
                BackYear x = Check.of(2, TWELVE);
                long[] row = nothing(12);
                row[place] = d;
                Check.row(x, 0, d & 3, row);
                due("deed " + d + " at place " + place, x.judged(0, d & 3, 0), d == -1 || d == 11 - place ? NONE : place);
            }
            BackYear y = Check.of(2, TWELVE);
            long[] late = new long[12];
            for (int k = 0; k < 12; k++) {
                late[k] = k < place ? 11 - k : 12;
            }
            Check.row(y, 0, 0, late);
            due("the first place of some: " + place, y.judged(0, 0, 0), place);
        }
        long[] all = {11, 10, 9, 8, 7, 6, 5, 4, 3, 2, 1, 0};
        for (int lane = 0; lane <= 3; lane++) {
            BackYear y = Check.of(2, TWELVE);
            Check.row(y, 0, lane, all);
            due("all twelve, lane " + lane, y.judged(0, lane, 0), NONE);
            for (long far : new long[] {LEAST[lane], MOST[lane], LEAST[lane] + 11, LEAST[lane] + 12, -2, 12, 11 + 32,
                11 + 64}) {
                y.item(0, lane, 0, far);
                due("far off: " + far + ", lane " + lane, y.judged(0, lane, 0), 0);
            }
            y.item(0, lane, 0, 11);
            y.item(0, lane, 11, LEAST[lane]);
            due("far off at the last place, lane " + lane, y.judged(0, lane, 0), 11);
        }
        BackYear wide = Check.of(2, TWELVE);
        for (int lane = 2; lane <= 3; lane++) {
            Check.row(wide, 0, lane, all);
            wide.item(0, lane, 0, 11 + 256);
            due("not by its lowest 8 bits", wide.judged(0, lane, 0), 0);
            wide.item(0, lane, 0, 11 + 65536);
            due("not by its lowest 16 bits", wide.judged(0, lane, 0), 0);
        }
        wide.item(0, 3, 0, 11 + (1L << 32));
        due("not by its lowest 32 bits", wide.judged(0, 3, 0), 0);
        wide.item(0, 3, 0, (1L << 32) - 1);
        due("nor -1 by these", wide.judged(0, 3, 0), 0);
        wide.item(0, 3, 0, Long.MIN_VALUE + 11);
        due("nor without its sign", wide.judged(0, 3, 0), 0);
    }

    private static void asAWalkGoes() {
        says("Promise 30", "as a WALK goes");
        BackYear none = new BackYear();
        Check.row(none, 0, 0, nothing(12));
        due("nothing, of no deed", none.judged(0, 0, 0), NONE);
        none.item(0, 0, 11, 0);
        due("a deed, of none", none.judged(0, 0, 0), 11);
        BackYear x = Check.of(2, "pL,sLa,pA,sAc,hAd,pL");
        long[] row = nothing(12);
        row[0] = 1;
        Check.row(x, 0, 0, row);
        due("would not stand", x.judged(0, 0, 0), 0);
        row[0] = 0;
        row[11] = 4;
        Check.row(x, 0, 0, row);
        due("a habit of no last year", x.judged(0, 0, 0), 11);
        x.last(16);
        due("a habit of last year", x.judged(0, 0, 0), NONE);
        due("righted", x.right(0), 1);
        due("what is righted now counts for nothing", x.judged(0, 0, 0), NONE);
        row[0] = 5;
        Check.row(x, 0, 0, row);
        due("another of the day, as one is righted now", x.judged(0, 0, 0), NONE);
        Check.backTo(x, -1);
        due("the year is over", x.judged(0, 0, 0), NONE);
        row[0] = 1;
        Check.row(x, 0, 0, row);
        due("stands now, but would not", x.judged(0, 0, 0), 0);
    }

    private static void twelveItems() {
        says("Promise 30", "A row of 12 items of a SHEET, taken as a row of a LANE, from item i on");
        for (int n = 0; n <= 16; n++) {
            BackYear x = Check.of(2, "pL,pA");
            long[] row = nothing(n);
            for (int i = 0; i < n; i++) {
                row[i] = i < 4 && n == 16 ? 7 : -1;
            }
            Check.row(x, 1, 2, row);
            CHECK.beyond("i of " + n, i -> x.judged(1, 2, i), INDEX, 0, n - 12);
            for (int i = 0; i <= n - 12; i++) {
                due("from item " + i + " of " + n, x.judged(1, 2, i), n == 16 && i < 4 ? 0 : NONE);
            }
        }
        BackYear x = Check.of(2, "pL,pA");
        Check.row(x, 1, 2, nothing(16));
        x.item(1, 2, 4, 0);
        x.item(1, 2, 15, 1);
        due("from the last i on", x.judged(1, 2, 4), NONE);
        due("from the one ahead", x.judged(1, 2, 3), 1);
        due("not the items ahead of i", x.judged(1, 2, 0), 4);
        says("Promise 30", "BAD; NULL; CAST; INDEX; NONE: it can be.");
        CHECK.beyond("sheet", sheet -> x.judged(sheet, 2, 4), BAD, 0, 3);
        CHECK.beyond("lane", lane -> x.judged(1, lane, 4), BAD, 0, 3);
        for (int lane = 0; lane <= 3; lane++) {
            due("no row, lane " + lane, x.judged(0, lane, 0), NULL);
            due("lane " + lane, x.judged(1, lane, 4), lane == 2 ? NONE : CAST);
        }
        says("Terms", FIRST);
        due("sheet 4, far off", x.judged(4, 2, MAX), BAD);
        due("lane 4, no row", x.judged(0, 4, 0), BAD);
        due("lane -1, far off", x.judged(1, -1, MIN), BAD);
        says("Terms", ORDER);
        due("no row, far off", x.judged(0, 2, -1), NULL);
        due("another lane, far off", x.judged(1, 3, 5), CAST);
        due("another lane, below 0", x.judged(1, 3, -1), CAST);
        x.item(1, 2, 5, 7);
        due("too few, and can't be", x.judged(1, 2, 5), INDEX);
    }

    // ---- nets

    private static void net(String what, BackYear x, int deed, int many, int least, long... years) {
        Check.row(x, 3, 3, years);
        due(what + ": how many", x.net(deed, 3, 3, 0, years.length, 0), many);
        due(what + ": least", x.net(deed, 3, 3, 0, years.length, 1), least);
    }

    private static void howManyNets() {
        says("Terms", "NEEDS that a DEED (not of LAST YEAR, nothing RIGHTED) can have by its KIND, of DEEDS of lesser "
            + "numbers, none of a later DAY, so that it STOOD just when it did: how many such sets, the least.");
        int itself = 2048;
        for (int kind = 0; kind <= 3; kind++) {
            BackYear x = new BackYear();
            for (int d = 0; d < 11; d++) {
                x.deed(PLAIN, 4, 0);
            }
            x.deed(kind, 4, 0);
            boolean any = kind == 1 || kind == 3;
            int whenAll = kind == SPITE ? 1 : 2048;
            net("kind " + kind + ", it stood with all", x, 11, whenAll, 0, itself | 2047);
            net("kind " + kind + ", it did not, with all", x, 11, 2048 - whenAll, kind == SPITE ? 1 : NONE, 2047);
            int whenNone = kind == SPITE ? 2048 : 1;
            net("kind " + kind + ", it stood with none", x, 11, whenNone, 0, itself);
            net("kind " + kind + ", it did not, with none", x, 11, 2048 - whenNone, kind == SPITE ? NONE : 1, 0);
            net("kind " + kind + ", both, with none", x, 11, 0, NONE, 0, itself);
            x.last(4095);
            x.people(1);
            net("kind " + kind + ", though of last year", x, 11, 2048 - whenNone, kind == SPITE ? NONE : 1, 0);
            Check.backTo(x, 4);
            x.right(11);
            net("kind " + kind + ", though righted", x, 11, whenAll, 0, itself | 2047);
            net("kind " + kind + ", one alone, first", x, 11, any ? 1024 + 1 : kind == PLAIN ? 2 : 1024, 0, itself | 1);
            net("kind " + kind + ", one alone, last", x, 11, any ? 1024 + 1 : kind == PLAIN ? 2 : 1024, 0, itself | 1024);
        }
        BackYear first = Check.of(2, "pL,pA,pB");
        net("the first deed can need none", first, 0, 1, 0, 1);
        net("the first deed has no net", first, 0, 0, NONE, 0);
        net("a later day is no need", first, 1, 0, NONE, 2 | 1, 0);
        net("a day ahead is", first, 2, 1, 2, 4 | 2, 0);
        net("a greater number is no need", first, 1, 0, NONE, 2 | 4, 0);
        BackYear gaps = Check.of(2, "pA,pL,pA,pL,pB,aB");
        net("later days between", gaps, 4, 4, 0, 63);
        net("later days between, one at least", gaps, 4, 3, 1, 16 | 15, 0);
        net("later days between, of any", gaps, 5, 8 - 1, 1, 63, 0);
        net("later days between, the last alone", gaps, 5, 1, 16, 32 | 16 | 8, 47 - 32);
        BackYear same = Check.of(2, "pB,pB,pA");
        net("the same day is a need", same, 1, 1, 1, 3, 0);
        net("the next day is not", same, 2, 0, NONE, 4 | 3, 0);
    }

    private static void howManyYears() {
        says("Promise 31", "A NET of a DEED: n sets (1 .. 8) likewise: how many (0), the least (1).");
        for (int lane = 0; lane <= 3; lane++) {
            for (int n = 1; n <= 8; n++) {
                BackYear x = Check.of(2, "pA,pA,pA,aA");
                Check.row(x, 2, lane, 15, 15, 15, 15, 15, 15, 15, 0, 15, 9, 10, 12, 15, 15, 15, 8);
                due(n + " years, the last of eight lets none", x.net(3, 2, lane, 0, n, 0), n == 8 ? 7 : 8);
                due(n + " years, the least", x.net(3, 2, lane, 0, n, 1), n == 8 ? 1 : 0);
                due(n + " years from item 8 on", x.net(3, 2, lane, 8, n, 0), n == 1 ? 8 : n == 2 ? 5 : n == 3 ? 3
                    : n < 8 ? 2 : 1);
                int of = n;
                int from = lane;
                CHECK.beyond("i for " + n, i -> x.net(3, 2, from, i, of, 0), INDEX, 0, 16 - n);
                due("from the last i on", x.net(3, 2, lane, 16 - n, n, 0), 1);
            }
        }
        BackYear x = Check.of(2, "pA,pA,pA,aA");
        Check.row(x, 2, 1, new long[16]);
        CHECK.beyond("n", n -> x.net(3, 2, 1, 0, n, 0), BAD, 1, 8);
    }

    private static void netNot() {
        says("Promise 31", "NOT: one of these n has bits of DEEDS that there are not; NONE: there is none (1).");
        for (int many : new int[] {1, 2, 7, 11, 12}) {
            BackYear x = new BackYear();
            for (int d = 0; d < many; d++) {
                x.deed(PLAIN, 0, 0);
            }
            int all = (1 << many) - 1;
            x.sheet(0, 3, 9);
            for (int one = 0; one < 64; one++) {
                x.item(0, 3, 4, 1L << one | 1);
                due("deed " + one + " of " + many, x.net(0, 0, 3, 4, 1, 0), one < many ? 1 : NOT);
            }
            for (long set : new long[] {-1, all + 1, Long.MIN_VALUE, Long.MAX_VALUE, MIN, MAX, ~(long) all}) {
                x.item(0, 3, 4, set);
                due("set " + set + " of " + many, x.net(0, 0, 3, 4, 1, 0), NOT);
                due("set " + set + " of " + many + ", least", x.net(0, 0, 3, 4, 1, 1), NOT);
                due("the last of these n", x.net(0, 0, 3, 0, 5, 0), NOT);
                due("ahead of it", x.net(0, 0, 3, 0, 4, 0), 0);
                due("the first of these n", x.net(0, 0, 3, 4, 5, 1), NOT);
                due("behind it", x.net(0, 0, 3, 5, 4, 1), NONE);
            }
            x.item(0, 3, 4, all);
            due("all of " + many, x.net(many - 1, 0, 3, 4, 1, 0), 1 << many - 1);
        }
        for (int lane = 0; lane <= 3; lane++) {
            BackYear x = Check.of(2, TWELVE);
            x.sheet(0, lane, 1);
            x.item(0, lane, 0, LEAST[lane]);
            due("the least of lane " + lane, x.net(0, 0, lane, 0, 1, 0), NOT);
            x.item(0, lane, 0, MOST[lane]);
            due("the most of lane " + lane, x.net(0, 0, lane, 0, 1, 0), lane == 0 ? 1 : NOT);
        }
        says("Terms", FIRST);
        BackYear x = Check.of(2, "pA");
        Check.row(x, 0, 0, 0, 2, 0);
        due("there is none", x.net(0, 0, 0, 0, 1, 1), NONE);
        due("there is none: 0 of these", x.net(0, 0, 0, 0, 1, 0), 0);
        due("a deed that there is not, and none", x.net(0, 0, 0, 0, 2, 1), NOT);
        due("too few, and a deed that there is not", x.net(0, 0, 0, 1, 3, 1), INDEX);
    }

    private static void netRefused() {
        says("Promise 31", "BAD; NULL; CAST; INDEX; NOT: one of these n has bits of DEEDS that there are not; NONE: "
            + "there is none (1).");
        for (int many : new int[] {0, 1, 12}) {
            BackYear x = new BackYear();
            for (int d = 0; d < many; d++) {
                x.deed(PLAIN, 0, 0);
            }
            Check.row(x, 3, 0, 0, 0, 0, 0, 0, 0, 0, 0);
            CHECK.beyond("deed of " + many, deed -> x.net(deed, 3, 0, 0, 8, 0), BAD, 0, many - 1);
            CHECK.beyond("sheet, deeds " + many, sheet -> x.net(0, sheet, 0, 0, 8, 0), BAD, 0, 3);
            CHECK.beyond("lane, deeds " + many, lane -> x.net(0, 3, lane, 0, 8, 0), BAD, 0, 3);
            CHECK.beyond("n, deeds " + many, n -> x.net(0, 3, 0, 0, n, 0), BAD, 1, 8);
            CHECK.beyond("what, deeds " + many, what -> x.net(0, 3, 0, 0, 8, what), BAD, 0, 1);
            due("as told, deeds " + many, x.net(many - 1, 3, 0, 0, 8, 0), many == 0 ? BAD : (1 << many - 1) - 1);
        }
        BackYear x = Check.of(2, "pA");
        Check.row(x, 3, 0, 9, 9);
        says("Terms", FIRST);
        due("deed 1, no row", x.net(1, 0, 0, 0, 1, 0), BAD);
        due("n 0, no row", x.net(0, 0, 0, 0, 0, 0), BAD);
        due("n 9, another lane", x.net(0, 3, 1, 0, 9, 0), BAD);
        due("n -1, far off", x.net(0, 3, 0, MAX, -1, 0), BAD);
        due("n least", x.net(0, 3, 0, 0, MIN, 0), BAD);
        due("what 2, far off", x.net(0, 3, 0, -1, 1, 2), BAD);
        due("what 2, bits of others", x.net(0, 3, 0, 0, 1, 2), BAD);
        due("lane 4, no row", x.net(0, 0, 4, 0, 1, 0), BAD);
        says("Terms", ORDER);
        due("no row, another lane, far off", x.net(0, 0, 1, -1, 8, 0), NULL);
        due("another lane, far off", x.net(0, 3, 1, 2, 1, 0), CAST);
        due("another lane, below 0, bits of others", x.net(0, 3, 3, -1, 1, 0), CAST);
        due("far off, bits of others", x.net(0, 3, 0, 1, 2, 0), INDEX);
        due("below 0, bits of others", x.net(0, 3, 0, -1, 2, 0), INDEX);
        due("bits of others", x.net(0, 3, 0, 0, 2, 0), NOT);
    }

    // ---- films

    private static void film() {
        says("Promise 32", "VALUES of all PEOPLE come to a SHEET likewise (their lowest bits): how many. BAD; NULL; CAST; "
            + "INDEX.");
        for (int people = 1; people <= 4; people++) {
            for (int l = 0; l <= 3; l++) {
                int lane = l;
                BackYear x = toFilm(people, lane);
                CHECK.beyond("i of 16, for " + people, i -> x.film(0, lane, i), INDEX, 0, 16 - people);
                holds("refused, the last as it was", x, 0, lane, 15, 1);
                holds("refused, the first as it was", x, 0, lane, 0, 1);
                for (int n = 0; n <= 4; n++) {
                    x.sheet(1, lane, n);
                    due(people + " in " + n, x.film(1, lane, 0), n < people ? INDEX : people);
                }
                filmed(toFilm(people, lane), people, lane);
            }
        }
    }

    /** A row of 16 items, all 1, and a deed. */
    private static BackYear toFilm(int people, int lane) {
        BackYear x = Check.of(people, "pA");
        Check.worths(x, 0, 5, 6, 7, 8);
        x.sheet(0, lane, 16);
        for (int i = 0; i < 16; i++) {
            x.item(0, lane, i, 1);
        }
        return x;
    }

    private static void filmed(BackYear x, int people, int lane) {
        due("from the last i on", x.film(0, lane, 16 - people), people);
        holds("ahead of these", x, 0, lane, 15 - people, 1);
        for (int p = 0; p < people; p++) {
            holds("value of " + p, x, 0, lane, 16 - people + p, 5 + p);
        }
        due("from item 0 on", x.film(0, lane, 0), people);
        holds("value of the last", x, 0, lane, people - 1, 4 + people);
        holds("behind these", x, 0, lane, people, 1);
    }

    private static void filmValues() {
        says("Promise 32", "VALUES of all PEOPLE come to a SHEET likewise (their lowest bits): how many.");
        for (int lane = 0; lane <= 3; lane++) {
            BackYear x = toFilmTwelve(lane);
            due("the most and the least", x.film(0, lane, 0), 4);
            holds("108", x, 0, lane, 0, 108);
            holds("-108", x, 0, lane, 1, OTHER);
            holds("0", x, 0, lane, 2, 0);
            holds("-1", x, 0, lane, 3, -1);
            BackYear y = toFilmTwelve(lane);
            Check.walk(y, 4095);
            due("as all is", y.film(0, lane, 0), 4);
            holds("-108 by costs", y, 0, lane, 0, OTHER);
            holds("0, as all are righted", y, 0, lane, 1, 0);
            holds("0, as all are righted", y, 0, lane, 3, 0);
        }
        BackYear none = new BackYear();
        Check.row(none, 0, 0, 5, 5, 5);
        due("of no deed", none.film(0, 0, 0), 2);
        holds("0", none, 0, 0, 1, 0);
        holds("behind it", none, 0, 0, 2, 5);
    }

    private static BackYear toFilmTwelve(int lane) {
        BackYear x = Check.of(4, TWELVE);
        for (int d = 0; d < 12; d++) {
            Check.worths(x, d, 9, -9, 0, d == 0 ? -1 : 0);
            x.set(d, 0, 9);
        }
        x.sheet(0, lane, 4);
        return x;
    }

    private static void filmRefused() {
        says("Promise 32", "BAD; NULL; CAST; INDEX.");
        BackYear x = Check.of(2, "pA");
        Check.row(x, 2, 1, 5, 5, 5);
        CHECK.beyond("sheet", sheet -> x.film(sheet, 1, 0), BAD, 0, 3);
        CHECK.beyond("lane", lane -> x.film(2, lane, 0), BAD, 0, 3);
        due("no row", x.film(3, 1, 0), NULL);
        for (int lane = 0; lane <= 3; lane += lane == 0 ? 2 : 1) {
            due("another lane", x.film(2, lane, 0), CAST);
        }
        says("Terms", FIRST);
        due("sheet 4, far off", x.film(4, 1, MAX), BAD);
        due("lane 4, no row", x.film(3, 4, 0), BAD);
        says("Terms", ORDER);
        due("no row, far off", x.film(3, 1, -1), NULL);
        due("another lane, far off", x.film(2, 0, MIN), CAST);
        due("another lane, too few", x.film(2, 2, 2), CAST);
        due("too few", x.film(2, 1, 2), INDEX);
        says("Terms", "What is refused changes nothing, but as told.");
        for (int i = 0; i < 3; i++) {
            holds("as it was", x, 2, 1, i, 5);
        }
    }

    // ---- copies

    /** Items i + 1 in the one, 14 - i in the other. */
    private static BackYear toCopy(int from, int to, int lane, int size, int other) {
        BackYear x = new BackYear();
        Check.text(x, Rows.BITS);
        Check.row(x, from, lane, new long[size]);
        if (to != from) {
            Check.row(x, to, lane, new long[other]);
        }
        for (int i = 0; i < size; i++) {
            x.item(from, lane, i, i + 1);
        }
        for (int i = 0; i < other && to != from; i++) {
            x.item(to, lane, i, 30 - i);
        }
        return x;
    }

    private static void copied(int from, int i, int to, int j, int n, int size, int other) {
        int lane = n & 3;
        BackYear x = toCopy(from, to, lane, size, other);
        boolean fits = i >= 0 && j >= 0 && n >= 0 && i + n <= size && j + n <= other;
        String call = "copy(" + from + ", " + i + ", " + to + ", " + j + ", " + n + ") of " + size + " and " + other;
        due(call, x.copy(from, i, to, j, n), fits ? n : INDEX);
        for (int k = 0; k < other; k++) {
            boolean came = fits && k >= j && k < j + n;
            int before = to == from ? k + 1 : 30 - k;
            due(call + ": item " + k, Rows.bits(x, to, lane, k, 5), came ? i + k - j + 1 : before);
        }
        for (int k = 0; k < size && to != from; k++) {
            due(call + ": item " + k + " it came from", Rows.bits(x, from, lane, k, 5), k + 1);
        }
    }

    private static void copies() {
        says("Promise 36", "n items of a SHEET from i on come to another one (or the same) from j on, as if all were "
            + "taken ahead: n.");
        for (int i = -1; i <= 17; i++) {
            for (int j = -1; j <= 17; j++) {
                for (int n = -1; n <= 17; n++) {
                    copied(1, i, 1, j, n, 16, 16);
                }
            }
        }
        for (int i = -1; i <= 6; i++) {
            for (int j = -1; j <= 5; j++) {
                for (int n = -1; n <= 6; n++) {
                    copied(0, i, 3, j, n, 5, 4);
                    copied(3, i, 0, j, n, 4, 5);
                }
            }
        }
    }

    private static void copyOfNone() {
        says("Terms", ORDER);
        for (int size = 0; size <= 16; size += 8) {
            BackYear x = new BackYear();
            x.sheet(0, 0, size);
            x.sheet(1, 0, 16 - size);
            int last = size;
            int other = 16 - size;
            CHECK.beyond("none, i of " + last, i -> x.copy(0, i, 1, 0, 0), INDEX, 0, last);
            CHECK.beyond("none, j of " + other, j -> x.copy(0, 0, 1, j, 0), INDEX, 0, other);
            due("none, from the end to the end", x.copy(0, last, 1, other, 0), 0);
            due("none, from the beginning to the beginning", x.copy(0, 0, 1, 0, 0), 0);
            due("none, from itself to itself", x.copy(0, last, 0, last, 0), 0);
            due("none, i and j far off", x.copy(0, MAX, 1, MAX, 0), INDEX);
            due("none, i and j least", x.copy(0, MIN, 1, MIN, 0), INDEX);
            CHECK.beyond("n", n -> x.copy(0, 0, 1, 0, n), INDEX, 0, Math.min(last, other));
            due("i and n wrap around", x.copy(0, MAX, 1, 0, MAX), INDEX);
            due("i and n wrap around to 0", x.copy(0, MIN, 1, 0, MIN), INDEX);
            due("j and n wrap around", x.copy(0, 0, 1, MAX, MAX), INDEX);
            due("i + n wraps around to 1", x.copy(0, 2, 1, 0, MAX), INDEX);
            due("j + n wraps around to -1", x.copy(0, 0, 1, MAX, MIN), INDEX);
        }
        says("Promise 36", "INDEX (n below 0, too).");
        BackYear x = new BackYear();
        x.sheet(0, 3, 4);
        due("n -1, from the end", x.copy(0, 4, 0, 4, -1), INDEX);
        due("n -1", x.copy(0, 0, 0, 0, -1), INDEX);
        due("n least", x.copy(0, 4, 0, 4, MIN), INDEX);
    }

    private static void copyRefused() {
        says("Promise 36", "NULL (either); CAST: of unlike LANES; INDEX (n below 0, too).");
        for (int from = 0; from <= 3; from++) {
            for (int to = 0; to <= 3; to++) {
                BackYear x = new BackYear();
                for (int lane = 0; lane <= 3; lane++) {
                    x.sheet(lane, lane, 2);
                }
                String call = "from " + from + " to " + to;
                due(call + ": of unlike lanes", x.copy(from, 0, to, 0, 1), from == to ? 1 : CAST);
                due(call + ": of unlike lanes, none", x.copy(from, 0, to, 0, 0), from == to ? 0 : CAST);
                due(call + ": of unlike lanes, far off", x.copy(from, 0, to, MAX, 1), from == to ? INDEX : CAST);
                due(call + ": of unlike lanes, n below 0", x.copy(from, 0, to, 0, -1), from == to ? INDEX : CAST);
                x.drop(to);
                due(call + ": to nothing", x.copy(from, 0, to, 0, 1), NULL);
                due(call + ": to nothing, none", x.copy(from, 0, to, 0, 0), NULL);
                due(call + ": to nothing, far off", x.copy(from, MIN, to, MAX, -1), NULL);
                due(call + ": from nothing", x.copy(to, 0, from, 0, 1), NULL);
                due(call + ": from nothing, n below 0", x.copy(to, 0, from, 0, -1), NULL);
                x.sheet(to, from, 2);
                due(call + ": of like lanes", x.copy(from, 0, to, 0, 2), 2);
            }
        }
        BackYear x = new BackYear();
        x.sheet(0, 0, 2);
        says("Promise 36", "BAD; NULL (either)");
        CHECK.beyond("from", from -> x.copy(from, 0, 0, 0, 1), BAD, 0, 3);
        CHECK.beyond("to", to -> x.copy(0, 0, to, 0, 1), BAD, 0, 3);
        says("Terms", FIRST);
        CHECK.beyond("from, to nothing", from -> x.copy(from, 0, 1, 0, 1), BAD, 0, 3);
        CHECK.beyond("to, from nothing, far off", to -> x.copy(1, -1, to, -1, -1), BAD, 0, 3);
    }

    public static void main(String[] args) {
        howMany();
        sheetRefused();
        aNewRow();
        dropRefused();
        lowestBits();
        itemRefused();
        whichDayAndDeed();
        asAWalkGoes();
        twelveItems();
        howManyNets();
        howManyYears();
        netNot();
        netRefused();
        film();
        filmValues();
        filmRefused();
        copies();
        copyOfNone();
        copyRefused();
        CHECK.end();
    }
}

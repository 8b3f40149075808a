import java.util.ArrayList;
import java.util.List;

/** Promises 24 to 29 at their edges, one sentence of the document after the other. */
public final class ComingEdgesTest {
    private static final Check CHECK = new Check("ComingEdgesTest");
    private static final int BAD = BackYear.BAD, NONE = BackYear.NONE;
    private static final int PLAIN = 0, SPITE = 2, HABIT = 3;
    private static final String TWELVE = "pA,pB,pC,pD,pE,pF,pG,pH,pI,pJ,pK,pL";
    /** KIND, NEEDS, worth to all, COST: deeds of days 0 .. 11, by which 85 years go until one comes again. */
    private static final int[][] SLOW = {{2, 0, -35, 9}, {2, 1, 29, 0}, {3, 1, 19, 7}, {3, 2, -2, 4}, {3, 2, -4, 0},
        {2, 19, 5, 5}, {1, 49, -22, 7}, {3, 8, -5, 3}, {1, 129, -36, 3}, {3, 2, -11, 3}, {3, 544, -8, 0},
        {3, 1056, -8, 3}};
    private static final int SLOW_LAST = 4019, SLOW_YEARS = 85, SLOW_ROUND = 42;

    private ComingEdgesTest() {
    }

    private static void due(String call, long got, long want) {
        CHECK.due(call, got, want);
    }

    private static void says(String where, String words) {
        CHECK.says(where, words);
    }

    // ---- a day forgotten

    private static void forgotten(String what, BackYear x, int day, int told, int many, int sure) {
        due(what + ": how many", x.forgotten(day, told, 0), many);
        due(what + ": sure", x.forgotten(day, told, 1), sure);
    }

    private static void howManyMayHaveStood() {
        says("Terms", "sets of DEEDS of that DAY that may have STOOD, each or not at will, so that all others STAND as "
            + "told: how many; SURE: who is of all of these.");
        BackYear none = new BackYear();
        BackYear one = Check.of(2, "pD");
        for (int day = 0; day <= 11; day++) {
            forgotten("no deed, day " + day, none, day, 0, 1, 0);
            forgotten("one deed, day " + day, one, day, day == 3 ? 0 : 1, day == 3 ? 2 : 1, 0);
            if (day != 3) {
                forgotten("one deed, told wrong, day " + day, one, day, 0, 0, NONE);
            }
        }
        BackYear ofOneDay = new BackYear();
        for (int d = 0; d < 12; d++) {
            ofOneDay.deed(d % 4, 7, 0);
        }
        forgotten("twelve of that day", ofOneDay, 7, 0, 4096, 0);
        forgotten("twelve of the next day", ofOneDay, 8, 4095, 1, 0);
        forgotten("one of the next day told not to stand", ofOneDay, 8, 2047, 0, NONE);
        BackYear last = elevenAnd(PLAIN);
        forgotten("all eleven must have stood", last, 0, 2048, 1, 2047);
        forgotten("not all eleven", last, 0, 0, 2047, 0);
        forgotten("eleven told, one of that day at will", last, 11, 2047, 2, 0);
        forgotten("ten told", last, 11, 2047 & ~64, 0, NONE);
        BackYear spite = elevenAnd(SPITE);
        forgotten("none of eleven", spite, 0, 2048, 1, 0);
        forgotten("one of eleven at least", spite, 0, 0, 2047, 0);
        BackYear habit = elevenAnd(HABIT);
        habit.last(2048);
        forgotten("any of eleven, last year counts", habit, 0, 2048, 2048, 0);
        forgotten("it can't be, last year counts", habit, 0, 0, 0, NONE);
        BackYear two = Check.of(2, "pA,pA,pBa,pBab,aBb");
        forgotten("both are sure", two, 0, 4 | 8 | 16, 1, 3);
        forgotten("the first is sure, the second can't be", two, 0, 4, 1, 1);
        forgotten("the second alone", two, 0, 16, 1, 2);
        forgotten("neither", two, 0, 0, 1, 0);
        forgotten("it can't be", two, 0, 8, 0, NONE);
    }

    /** Eleven deeds of day 0 and one of day 11 in need of all these. */
    private static BackYear elevenAnd(int kind) {
        BackYear x = new BackYear();
        for (int d = 0; d < 11; d++) {
            x.deed(PLAIN, 0, 0);
        }
        x.deed(kind, 11, 2047);
        return x;
    }

    private static void nothingIsRighted() {
        says("Terms", "of DEEDS of all other DAYS it is told which STAND (a set), nothing is RIGHTED (LAST YEAR counts)");
        BackYear x = Check.of(2, "pL,pLa,pK");
        x.right(0);
        x.back();
        x.right(2);
        forgotten("righted ones stand", x, 0, 7, 1, 0);
        forgotten("as all is now it can't be", x, 0, 0, 0, NONE);
        forgotten("of that day itself", x, 10, 3, 2, 0);
    }

    private static void forgottenRefused() {
        says("Promise 24", "FORGOTTEN: how many (0), SURE (1). BAD: also a told DEED of that DAY, one that there is not; "
            + "NONE: there is none (1).");
        for (String deeds : new String[] {"pD", TWELVE}) {
            BackYear x = Check.of(2, deeds);
            int many = x.count(1);
            for (int w = 0; w <= 1; w++) {
                int what = w;
                CHECK.beyond("day", day -> x.forgotten(day, 0, what), BAD, 0, 11);
                CHECK.beyondSets("told", told -> x.forgotten(5, told, what), BAD, many);
                for (int d = 0; d < many; d++) {
                    int day = x.told(d, 1);
                    due("deed " + d + " of that day", x.forgotten(day, 1 << d, what), BAD);
                    due("deed " + d + " of that day, with all", x.forgotten(day, (1 << many) - 1, what), BAD);
                    int others = (1 << many) - 1 & ~(1 << d);
                    due("all but deed " + d, x.forgotten(day, others, what), what == 0 ? 2 : 0);
                }
            }
            CHECK.beyond("what", what -> x.forgotten(0, many == 1 ? 1 : 4094, what), BAD, 0, 1);
        }
        BackYear x = Check.of(2, "pA,pB");
        due("none, how many", x.forgotten(11, 0, 0), 0);
        due("none", x.forgotten(11, 0, 1), NONE);
        says("Terms", "Answers below 0, of several the first that a call names");
        due("one of that day, and none", x.forgotten(1, 2, 1), BAD);
        due("one that there is not, and none", x.forgotten(11, 4, 1), BAD);
        due("day 12, and none", x.forgotten(12, 0, 1), BAD);
        due("day -1, and none", x.forgotten(-1, 0, 1), BAD);
        due("what 2, and none", x.forgotten(11, 0, 2), BAD);
    }

    // ---- what is expected

    private static void expected(String what, BackYear x, long upper, long lower) {
        due(what + ": upper", x.upper(), upper);
        due(what + ": lower", x.lower(), lower);
    }

    private static void odds() {
        says("Promise 25", "EXPECTED: its upper number, in lowest terms (0: 0 of 1).");
        expected("no deed", new BackYear(), 0, 1);
        BackYear x = Check.of(1, "pA");
        expected("worth 0", x, 0, 1);
        int[][] want = {{0, 1}, {1, 4}, {1, 2}, {3, 4}, {1, 1}};
        for (int odds = 0; odds <= 4; odds++) {
            x.set(0, 1, odds);
            x.worth(0, 0, 1);
            expected("worth 1, odds " + odds, x, want[odds][0], want[odds][1]);
            x.worth(0, 0, -1);
            expected("worth -1, odds " + odds, x, -want[odds][0], want[odds][1]);
            x.worth(0, 0, 0);
            expected("worth 0, odds " + odds, x, 0, 1);
            x.worth(0, 0, 4);
            expected("worth 4, odds " + odds, x, odds, 1);
            x.worth(0, 0, -4);
            expected("worth -4, odds " + odds, x, -odds, 1);
        }
        x.worth(0, 0, 9);
        x.set(0, 1, 2);
        expected("worth 9, odds 2", x, 9, 2);
        x.set(0, 1, 3);
        expected("worth 9, odds 3", x, 27, 4);
        x.people(2);
        x.worth(0, 1, -9);
        expected("worth as much less to another", x, 0, 1);
        x.worth(0, 2, 9);
        expected("worth to one who is not there", x, 0, 1);
    }

    private static void byNumbers() {
        says("Terms", "EXPECTED: DEED by DEED, from 0 on");
        BackYear x = new BackYear();
        x.people(1);
        for (int d = 0; d < 12; d++) {
            x.deed(PLAIN, 0, d == 0 ? 0 : 1 << d - 1);
            x.set(d, 1, 2);
        }
        x.worth(11, 0, 1);
        expected("one after the other, 2 of 4 each", x, 1, 4096);
        x.set(0, 1, 0);
        expected("the first never", x, 0, 1);
        x.set(0, 1, 4);
        expected("the first always", x, 1, 2048);
        for (int d = 0; d < 12; d++) {
            x.worth(d, 0, 1);
        }
        expected("each by which goes ahead of it", x, 4095, 2048);
    }

    private static void byKinds() {
        says("Terms", "one that would STAND (by its KIND, by which of those ahead STAND by then, by LAST YEAR; nothing "
            + "RIGHTED) does so as often of 4 times as its ODDS tell, apart; else it does not STAND (and costs nothing)");
        String[] letters = {"pA,pLa", "pA,aLa", "pA,sLa", "pA,hLa"};
        long[][] want = {{3, 16}, {3, 16}, {9, 16}, {3, 16}};
        for (int kind = 0; kind < 4; kind++) {
            BackYear x = Check.of(1, letters[kind]);
            x.worth(1, 0, 1);
            x.set(0, 1, 1);
            x.set(1, 1, 3);
            x.set(1, 0, 9);
            expected(letters[kind], x, want[kind][0], want[kind][1]);
            x.last(1);
            expected(letters[kind] + ", the other was of last year", x, want[kind][0], want[kind][1]);
            x.last(2);
            expected(letters[kind] + ", of last year", x, kind == HABIT ? 3 : want[kind][0], kind == HABIT ? 4 : 16);
            x.right(1);
            expected(letters[kind] + ", righted", x, kind == HABIT ? 3 : want[kind][0], kind == HABIT ? 4 : 16);
            x.set(1, 1, 0);
            expected(letters[kind] + ", odds 0", x, 0, 1);
        }
    }

    private static void greatNumbers() {
        says("Promise 26", "Its lower number.");
        for (int sign = -1; sign <= 1; sign += 2) {
            BackYear x = Check.of(4, TWELVE);
            for (int odds = 0; odds <= 4; odds++) {
                for (int d = 0; d < 12; d++) {
                    Check.worths(x, d, 9 * sign, 9 * sign, 9 * sign, 9 * sign);
                    x.set(d, 1, odds);
                }
                expected("all twelve, odds " + odds, x, 108L * odds * sign, 1);
            }
        }
        BackYear y = new BackYear();
        y.people(4);
        for (int d = 0; d < 12; d++) {
            y.deed(d == 11 ? PLAIN : HABIT, 0, d == 11 ? 2047 : 0);
            Check.worths(y, d, 9, 9, 9, d == 11 ? 8 : 9);
            y.set(d, 1, 3);
        }
        long twelfth = 531441L * 35;
        expected("more than an int holds", y, 297L * (1 << 24) + twelfth, 1 << 24);
        for (int d = 0; d < 12; d++) {
            Check.worths(y, d, -9, -9, -9, d == 11 ? -8 : -9);
        }
        expected("less than an int holds", y, -297L * (1 << 24) - twelfth, 1 << 24);
        for (int d = 0; d < 11; d++) {
            Check.worths(y, d, 0, 0, 0, 0);
        }
        expected("the last alone", y, -twelfth, 1 << 24);
        Check.worths(y, 11, 0, 0, 0, 1);
        for (int d = 0; d < 12; d++) {
            y.set(d, 1, 1);
        }
        expected("the least that is above 0", y, 1, 1 << 24);
        Check.worths(y, 11, 0, 0, 0, 8);
        expected("in lowest terms", y, 1, 1 << 21);
        Check.worths(y, 11, 0, 0, 0, 0);
        expected("0 of 1, of twelve", y, 0, 1);
    }

    // ---- years to come

    private static BackYear slow(int last) {
        BackYear x = new BackYear();
        x.people(4);
        for (int d = 0; d < 12; d++) {
            x.deed(SLOW[d][0], d, SLOW[d][1]);
            x.set(d, 0, SLOW[d][3]);
            int left = SLOW[d][2];
            for (int p = 0; p < 4; p++) {
                int part = Math.max(-9, Math.min(9, left));
                x.worth(d, p, part);
                left -= part;
            }
        }
        x.last(last);
        return x;
    }

    /** Goes through the year by the calls themselves. */
    private static int next(int last) {
        BackYear x = slow(last);
        Check.walk(x, x.best(4, 0, 1));
        x.year();
        return x.count(6);
    }

    private static void sixtyYears() {
        says("Terms", "behind how many YEARS (1 .. 60) LAST YEAR is for the first time as it was at the beginning of a "
            + "YEAR ahead (now counts), and how many YEARS ahead that was.");
        List<Integer> begun = new ArrayList<>();
        int last = SLOW_LAST;
        while (!begun.contains(last) && begun.size() < 4096) {
            begun.add(last);
            last = next(last);
        }
        due("years until one comes again", begun.size(), SLOW_YEARS);
        due("years from that one on", begun.size() - begun.indexOf(last), SLOW_ROUND);
        for (int year = 0; year < SLOW_YEARS; year++) {
            BackYear x = slow(begun.get(year));
            int behind = Math.max(SLOW_YEARS - year, SLOW_ROUND);
            due("behind " + behind + " years", x.comes(4, 0), behind > 60 ? NONE : behind);
            due("behind " + behind + " years, ahead", x.comes(4, 1), behind > 60 ? NONE : SLOW_ROUND);
            due("nothing changed", x.count(6), begun.get(year));
        }
        says("Promise 27", "YEARS to come by BEST of k: behind how many (0), how many ahead (1). BAD; NONE: not in 60.");
        BackYear x = slow(begun.get(SLOW_YEARS - 60));
        due("60 are in 60", x.comes(4, 0), 60);
        BackYear y = slow(begun.get(SLOW_YEARS - 61));
        due("61 are not", y.comes(4, 0), NONE);
        due("nor how many ahead", y.comes(4, 1), NONE);
        says("Terms", "Answers below 0, of several the first that a call names");
        due("k 5, and not in 60", y.comes(5, 0), BAD);
        due("what 2, and not in 60", y.comes(4, 2), BAD);
        due("what -1, and not in 60", y.comes(4, -1), BAD);
    }

    private static void nowCounts() {
        says("Terms", "as it was at the beginning of a YEAR ahead (now counts)");
        BackYear x = Check.of(1, "pA,sAa");
        for (int k = 0; k <= 4; k++) {
            x.last(0);
            due("not as it is now, k " + k, x.comes(k, 0), 2);
            due("but a year ahead, k " + k, x.comes(k, 1), 1);
            x.last(1);
            due("as it is now, k " + k, x.comes(k, 0), 1);
            due("a year ahead, k " + k, x.comes(k, 1), 1);
        }
        x.last(3);
        due("LAST YEAR counts whole, though it changes nothing", x.comes(4, 0), 2);
        says("Terms", "YEARS to come: each YEAR BEST of k is RIGHTED, then a NEW YEAR");
        BackYear y = Check.of(1, "pA,pB,pC,pD,pE,pF");
        for (int d = 0; d < 6; d++) {
            y.worth(d, 0, -9);
        }
        for (int k = 0; k <= 4; k++) {
            y.last(63 & ~((1 << k) - 1));
            due("the best of " + k, y.comes(k, 0), 1);
            y.last(63);
            due("the best of " + k + ", from all on", y.comes(k, 0), k == 0 ? 1 : 2);
        }
        y.last(63);
        for (int d = 5; d >= 0; d--) {
            Check.backTo(y, d);
            y.right(d);
        }
        y.back();
        due("what is righted now counts for nothing", y.comes(0, 0), 1);
    }

    private static void comesRefused() {
        says("Promise 27", "YEARS to come by BEST of k: behind how many (0), how many ahead (1). BAD; NONE: not in 60.");
        for (String deeds : new String[] {"pA", TWELVE}) {
            BackYear x = Check.of(2, deeds);
            for (int w = 0; w <= 1; w++) {
                int what = w;
                CHECK.beyond("k", k -> x.comes(k, what), BAD, 0, 4);
            }
            for (int k = 0; k <= 4; k++) {
                int of = k;
                CHECK.beyond("what", what -> x.comes(of, what), BAD, 0, 1);
                due("k " + k, x.comes(k, 0), 2);
                due("k " + k, x.comes(k, 1), 1);
            }
            due("no year is gone", x.count(3), 0);
            due("last year is as it was", x.count(6), 0);
        }
    }

    // ---- images

    private static void tells(String when, BackYear x, int... counts) {
        for (int what = 0; what < counts.length; what++) {
            due(when + ": count(" + what + ")", x.count(what), counts[what]);
        }
    }

    /** All that can be told of twelve deeds is as v makes it. */
    private static void tellAll(BackYear x, int v) {
        for (int d = 0; d < 12; d++) {
            x.set(d, 0, v);
            x.set(d, 1, v % 5);
            Check.worths(x, d, v, -v, v - 1, 1 - v);
        }
    }

    private static void isAll(String when, BackYear x, int v) {
        for (int d = 0; d < 12; d++) {
            due(when + ": cost of " + d, x.told(d, 3), v);
            due(when + ": odds of " + d, x.told(d, 4), v % 5);
            due(when + ": worths of " + d + " to 0", x.worthOf(d, 0), v);
            due(when + ": worths of " + d + " to 1", x.worthOf(d, 1), -v);
            due(when + ": worths of " + d + " to 2", x.worthOf(d, 2), v - 1);
            due(when + ": worths of " + d + " to 3", x.worthOf(d, 3), 1 - v);
        }
    }

    private static BackYear imaged() {
        BackYear x = Check.of(3, "pL,sLa,aK,pK,pJ,hJe,pA,pA,pBg,hBh,aC,pCk");
        tellAll(x, 7);
        x.year();
        x.right(0);
        x.back();
        x.right(3);
        x.back();
        x.last(33);
        due("image()", x.image(), 1);
        return x;
    }

    private static void imageKeepsAll() {
        says("Promise 28", "All but SHEETS, THE TAPE is kept as an IMAGE: 1.");
        BackYear x = imaged();
        int standing = x.count(4);
        tells("an image changes nothing", x, 3, 12, 10, 1, standing, 9, 33);
        tellAll(x, 3);
        x.people(4);
        Check.backTo(x, -1);
        x.year();
        Check.text(x, "hA");
        says("Promise 29", "All is as it was then: 1. NONE: there is none.");
        due("restore()", x.restore(), 1);
        tells("restored", x, 3, 12, 10, 1, standing, 9, 33);
        isAll("restored", x, 7);
        due("kind of deed 11", x.told(11, 0), 0);
        due("day of deed 11", x.told(11, 1), 2);
        due("needs of deed 11", x.told(11, 2), 1 << 10);
        due("it is full", x.deed(0, 0, 0), BackYear.FULL);
        tellAll(x, 5);
        x.right(4);
        x.back();
        x.last(1);
        due("restore() again: the image is its own", x.restore(), 1);
        tells("restored again", x, 3, 12, 10, 1, standing, 9, 33);
        isAll("restored again", x, 7);
    }

    private static void notSheetsNorTape() {
        says("Promise 28", "All but SHEETS, THE TAPE is kept as an IMAGE: 1.");
        BackYear x = new BackYear();
        x.sheet(0, 0, 1);
        x.sheet(1, 1, 2);
        x.type('p');
        x.image();
        x.sheet(0, 2, 5);
        x.drop(1);
        x.sheet(3, 3, 16);
        x.type('A');
        x.restore();
        due("a sheet stays as it is", x.item(0, 2, 4, 9), 1);
        due("a dropped one stays dropped", x.drop(1), BackYear.NULL);
        due("a new one stays", x.drop(3), 16);
        due("one that was never there", x.drop(2), BackYear.NULL);
        due("the tape stays as it is", x.text(), 1);
        x.image();
        due("nothing of a tape is kept", x.type('x'), 1);
        x.restore();
        due("nothing of a tape is taken", x.type('x'), 2);
    }

    private static void noImage() {
        says("Promise 29", "NONE: there is none.");
        BackYear x = Check.of(4, "pA,pB");
        x.last(3);
        x.back();
        due("none", x.restore(), NONE);
        tells("refused", x, 4, 2, 11, 0, 3, 0, 3);
        due("none, still", x.restore(), NONE);
        due("image()", x.image(), 1);
        due("one", x.restore(), 1);
        due("one, still", x.restore(), 1);
        tells("restored", x, 4, 2, 11, 0, 3, 0, 3);
        BackYear y = new BackYear();
        due("an image of nothing", y.image(), 1);
        Check.text(y, TWELVE);
        y.people(1);
        y.year();
        y.back();
        due("restored", y.restore(), 1);
        tells("nothing again", y, 2, 0, 12, 0, 0, 0, 0);
        due("the first deed again", y.deed(0, 0, 0), 0);
        due("its cost", y.told(0, 3), 1);
        due("another object has none", new BackYear().restore(), NONE);
        BackYear z = Check.of(2, "pA");
        Check.backTo(z, -1);
        z.image();
        z.year();
        z.restore();
        due("the year was over", z.back(), -100002);
        z.people(3);
        due("the later image counts", z.image(), 1);
        z.people(1);
        z.restore();
        due("people by the later image", z.count(0), 3);
    }

    public static void main(String[] args) {
        howManyMayHaveStood();
        nothingIsRighted();
        forgottenRefused();
        odds();
        byNumbers();
        byKinds();
        greatNumbers();
        sixtyYears();
        nowCounts();
        comesRefused();
        imageKeepsAll();
        notSheetsNorTape();
        noImage();
        CHECK.end();
    }
}

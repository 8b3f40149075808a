/** What stands, and promises 12 to 16, at their edges, one sentence of the document after the other. */
public final class WalkEdgesTest {
    private static final Check CHECK = new Check("WalkEdgesTest");
    private static final int BAD = BackYear.BAD, NOT = BackYear.NOT, BAD_LESS = -100001, NOT_LESS = -100002;
    private static final int PLAIN = 0, ANY = 1, SPITE = 2, HABIT = 3;

    private WalkEdgesTest() {
    }

    private static void due(String call, long got, long want) {
        CHECK.due(call, got, want);
    }

    private static void says(String where, String words) {
        CHECK.says(where, words);
    }

    // ---- what stands

    /** Deeds 0 .. 10, of which just those of the set stand, and deed 11 of that kind, in need of these. */
    private static BackYear twelfth(int kind, int needs, int standing) {
        BackYear x = new BackYear();
        x.deed(PLAIN, 0, 0);
        for (int d = 1; d < 11; d++) {
            x.deed((standing >> d & 1) != 0 ? PLAIN : SPITE, 0, 1);
        }
        x.deed(kind, 0, needs);
        return x;
    }

    private static void stands(int kind, int needs, int standing, int last, boolean so) {
        BackYear x = twelfth(kind, needs, standing | 1);
        x.last(last);
        String asked = "kind " + kind + " with needs " + needs + ", last year " + last + ", as " + standing + " stand";
        due(asked, x.told(11, 5), so ? 1 : 0);
        due(asked + ", in the set", x.count(4), (standing | 1) + (so ? 2048 : 0));
    }

    private static void kinds() {
        says("Terms", "0 PLAIN: if all its NEEDS STAND.");
        stands(PLAIN, 0, 1, 0, true);
        stands(PLAIN, 2, 1, 0, false);
        stands(PLAIN, 2, 3, 0, true);
        stands(PLAIN, 2047, 2047, 0, true);
        stands(PLAIN, 2047, 2047 & ~1024, 0, false);
        stands(PLAIN, 2047 & ~1024, 2047 & ~1024, 0, true);
        stands(PLAIN, 2046, 1, 0, false);
        stands(PLAIN, 2, 1, 4095, false);
        says("Terms", "1 ANY: if one of its NEEDS STANDS, or it has none");
        stands(ANY, 0, 1, 0, true);
        stands(ANY, 2, 1, 0, false);
        stands(ANY, 2, 3, 0, true);
        stands(ANY, 2046, 1, 0, false);
        stands(ANY, 2046, 1025, 0, true);
        stands(ANY, 2047, 1, 0, true);
        stands(ANY, 2046, 2047, 0, true);
        stands(ANY, 2046, 1, 4095, false);
        says("Terms", "2 SPITE: if none of its NEEDS STANDS");
        stands(SPITE, 0, 1, 0, true);
        stands(SPITE, 2, 1, 0, true);
        stands(SPITE, 2, 3, 0, false);
        stands(SPITE, 2046, 1, 0, true);
        stands(SPITE, 2046, 1025, 0, false);
        stands(SPITE, 2046, 2047, 0, false);
        stands(SPITE, 2, 3, 4095, false);
        says("Terms", "3 HABIT (below ANY): as ANY, and also if it is of LAST YEAR");
        stands(HABIT, 0, 1, 0, true);
        stands(HABIT, 2, 1, 0, false);
        stands(HABIT, 2, 3, 0, true);
        stands(HABIT, 2046, 1025, 0, true);
        stands(HABIT, 2046, 1, 0, false);
        stands(HABIT, 2046, 1, 2047, false);
        stands(HABIT, 2046, 1, 2048, true);
        stands(HABIT, 0, 1, 2048, true);
        stands(HABIT, 2, 3, 2048, true);
    }

    private static void righted() {
        says("Terms", "one that is RIGHTED does not");
        for (int kind = PLAIN; kind <= HABIT; kind++) {
            BackYear x = new BackYear();
            x.deed(kind, 11, 0);
            x.last(1);
            due("it stands, kind " + kind, x.told(0, 5), 1);
            due("it is righted", x.right(0), 1);
            due("it does not stand", x.told(0, 5), 0);
            due("in the set", x.count(4), 0);
        }
    }

    // ---- righting

    /** Deed d is of day d; deeds 12 - d and d - 1 are no deeds of the same day. */
    private static BackYear oneADay() {
        BackYear x = new BackYear();
        for (int d = 0; d < 12; d++) {
            x.deed(PLAIN, d, 0);
        }
        return x;
    }

    private static void ofTheDay() {
        says("Terms", "TO RIGHT a DEED: it is of THE DAY, STANDS, none of THE DAY is RIGHTED yet.");
        BackYear x = oneADay();
        int righted = 0;
        for (int day = 11; day >= 0; day--) {
            for (int d = 0; d < 12; d++) {
                if (d != day) {
                    due("on day " + day + " right(" + d + ")", x.right(d), NOT);
                }
            }
            due("refused, as before", x.count(5), righted);
            due("on day " + day + " right(" + day + ")", x.right(day), 1 << day);
            righted |= 1 << day;
            due("righted", x.count(5), righted);
            due("standing", x.count(4), 4095 & ~righted);
            due("once more", x.right(day), NOT);
            x.back();
        }
        for (int d = 0; d < 12; d++) {
            due("the year is over, right(" + d + ")", x.right(d), NOT);
        }
        due("all are righted", x.count(5), 4095);
    }

    private static void standsAndNoneYet() {
        says("Terms", "TO RIGHT a DEED: it is of THE DAY, STANDS, none of THE DAY is RIGHTED yet.");
        BackYear x = Check.of(2, "pL,sLa,pL,pLb");
        due("does not stand", x.right(1), NOT);
        due("does not stand, needs one that does not", x.right(3), NOT);
        due("none is righted", x.count(5), 0);
        due("stands", x.right(0), 1);
        due("stands now, but one of the day is righted", x.right(1), NOT);
        due("stands, but one of the day is righted", x.right(2), NOT);
        due("one is righted", x.count(5), 1);
        x.year();
        due("a new year, one more a day", x.right(2), 4);
        BackYear y = Check.of(2, "pK,pL,pL");
        y.right(1);
        y.back();
        due("one of the day ahead is righted, none of this", y.right(0), 1);
        BackYear z = Check.of(2, "pK");
        due("the day is not come yet", z.right(0), NOT);
        z.back();
        due("it is", z.right(0), 1);
    }

    private static void right() {
        says("Promise 12", "TO RIGHT: which DEEDS do not STAND any more by it (a set, itself, too). BAD; NOT: as told.");
        BackYear x = Check.of(2, "pL");
        CHECK.beyond("of one", deed -> x.right(deed), BAD, 0, 0);
        due("none righted", x.count(5), 0);
        BackYear chain = new BackYear();
        for (int d = 0; d < 12; d++) {
            chain.deed(PLAIN, 11, d == 0 ? 0 : 1 << d - 1);
        }
        CHECK.beyond("of twelve", deed -> chain.right(deed), BAD, 0, 11);
        due("all twelve fall", chain.right(0), 4095);
        due("none stands", chain.count(4), 0);
        CHECK.beyond("behind it", deed -> chain.right(deed), BAD, 0, 11);
        Check.backTo(chain, -1);
        CHECK.beyond("the year is over", deed -> chain.right(deed), BAD, 0, 11);
        BackYear y = Check.of(2, "pL,sLa,pLb,pLac");
        due("those that come to stand do not count, nor those that did not stand", y.right(0), 1);
        due("these stand", y.count(4), 6);
        BackYear z = new BackYear();
        for (int d = 0; d < 12; d++) {
            z.deed(PLAIN, 11, 0);
        }
        due("itself alone, the last of twelve", z.right(11), 2048);
    }

    private static void back() {
        says("Terms", "BACK goes THE DAY by one (behind 0 it is -1: the YEAR is over).");
        BackYear x = Check.of(2, "pA");
        for (int day = 10; day >= 0; day--) {
            due("back() to " + day, x.back(), day);
        }
        due("behind 0", x.back(), -1);
        says("Promise 13", "BACK: THE DAY (-1: the YEAR is over). Less 100000: NOT: it is over already.");
        due("over already", x.back(), NOT_LESS);
        due("over, still", x.back(), NOT_LESS);
        due("refused, the day and 1", x.count(2), 0);
        due("no year more", x.count(3), 0);
        due("a new year", x.year(), 1);
        due("back() in it", x.back(), 10);
    }

    // ---- a new year

    private static void newYear() {
        says("Terms", "A NEW YEAR: LAST YEAR are those that STAND, nothing is RIGHTED, THE DAY is 11.");
        BackYear x = Check.of(3, "pL,hLa,sLa,pL,hLc");
        x.right(0);
        x.back();
        due("righted as all is", x.count(5), 1);
        due("standing as all is", x.count(4), 4 + 8 + 16);
        due("stand in it", x.year(), 4);
        due("last year: what stood with what was righted", x.count(6), 4 + 8 + 16);
        due("nothing is righted", x.count(5), 0);
        due("the day and 1", x.count(2), 12);
        due("standing: the habit goes on, the spite does not", x.count(4), 1 + 2 + 8 + 16);
        due("people stay", x.count(0), 3);
        says("Promise 14", "A NEW YEAR: how many DEEDS STAND in it. FULL: 9999 YEARS.");
        due("of no deed", new BackYear().year(), 0);
        due("of one", Check.of(2, "pA").year(), 1);
        due("of one that does not stand", Check.of(2, "pA,sAa").year(), 1);
        due("of twelve", oneADay().year(), 12);
        BackYear y = oneADay();
        Check.walk(y, 4095);
        due("all twelve were righted, all stand again", y.year(), 12);
        due("last year none", y.count(6), 0);
    }

    private static void fullOfYears() {
        says("Promise 14", "FULL: 9999 YEARS.");
        BackYear x = Check.of(2, "pL,hLa,sLb");
        for (int year = 1; year < 9999; year++) {
            x.year();
        }
        due("9998 years", x.count(3), 9998);
        due("the last one", x.year(), 2);
        due("9999 years", x.count(3), 9999);
        x.last(4);
        x.right(1);
        x.back();
        due("one more", x.year(), BackYear.FULL);
        int[] want = {2, 3, 11, 9999, 5, 2, 4};
        for (int what = 0; what <= 6; what++) {
            due("refused: count(" + what + ")", x.count(what), want[what]);
        }
        due("still full", x.year(), BackYear.FULL);
        says("Terms", "PEOPLE, YEARS so far stay");
        due("a text", Check.text(x, "pA"), 1);
        due("full behind a text", x.year(), BackYear.FULL);
    }

    // ---- values

    private static void persons() {
        says("Promise 15", "VALUE (persons 0 ..), SUM (-1), as all is. BAD less 100000.");
        BackYear x = Check.of(4, "pL");
        Check.worths(x, 0, -1, 2, 3, 4);
        for (int people = 1; people <= 4; people++) {
            x.people(people);
            CHECK.beyond("persons, of " + people, person -> x.value(person), BAD_LESS, -1, people - 1);
            due("the last of " + people, x.value(people - 1), people == 1 ? -1 : people);
        }
        due("person 0, though -1 is how BAD is told", x.value(0), -1);
        due("sum of four", x.value(-1), 8);
        x.people(1);
        due("sum of one", x.value(-1), -1);
        says("Terms", "SUM: VALUES of all PEOPLE.");
        for (int people = 1; people <= 4; people++) {
            x.people(people);
            int sum = 0;
            for (int p = 0; p < people; p++) {
                sum += x.value(p);
            }
            due("sum of " + people, x.value(-1), sum);
        }
    }

    private static void mostAndLeast() {
        says("Terms", "VALUE of one: WORTH of all DEEDS that STAND, less the COSTS that one BEARS.");
        BackYear x = oneADay();
        x.people(4);
        for (int worth = -9; worth <= 9; worth += 18) {
            for (int d = 0; d < 12; d++) {
                Check.worths(x, d, worth, worth, worth, worth);
                x.set(d, 0, 9);
            }
            for (int p = 0; p < 4; p++) {
                due("all stand, worth " + worth, x.value(p), 12 * worth);
            }
            due("sum", x.value(-1), 48 * worth);
        }
        Check.walk(x, 4095);
        due("all are righted, one bears all costs", x.value(0), -108);
        due("the others bear none", x.value(1), 0);
        due("nor the last", x.value(3), 0);
        due("sum", x.value(-1), -108);
        for (int d = 0; d < 12; d++) {
            x.set(d, 0, 0);
        }
        due("at no cost", x.value(0), 0);
        BackYear y = Check.of(2, "pL,pLa,sLa");
        Check.worths(y, 0, 5, 0);
        Check.worths(y, 1, 3, -9);
        Check.worths(y, 2, -4, 7);
        due("one that does not stand is worth nothing", y.value(1), -9);
        y.right(0);
        due("nor one that falls; one that comes to stand is", y.value(1), 7);
        due("less the cost", y.value(0), -4 - 1);
    }

    private static void bears(String what, int want, int people, int... worths) {
        BackYear x = Check.of(people, "pL");
        Check.worths(x, 0, worths);
        x.set(0, 0, 9);
        due(what, x.bears(0), want);
        x.right(0);
        for (int p = 0; p < people; p++) {
            due(what + ": value of " + p + " as it is righted", x.value(p), p == want ? -9 : 0);
        }
    }

    private static void bearers() {
        says("Terms", "BORNE by the one of PEOPLE to whom its WORTH is most (of like ones the first), if that is above 0");
        bears("one alone", 0, 1, 9);
        bears("the first of four alike", 0, 4, 1, 1, 1, 1);
        bears("the last is most", 3, 4, 8, 8, 8, 9);
        bears("the first is most", 0, 4, 9, 8, 8, 8);
        bears("of like ones the first", 1, 4, 0, 2, 2, 2);
        bears("of like ones the first, not the last", 2, 4, 0, 1, 2, 2);
        bears("1 is above 0", 3, 4, -9, -9, -9, 1);
        bears("who is not there has no part", 0, 3, 1, 0, 0, 9);
        says("Terms", "else by the one to whom it is least (likewise)");
        bears("0 is not above 0", 1, 4, 0, -1, 0, 0);
        bears("0 for the last, likewise", 0, 4, -1, -1, -1, 0);
        bears("all 0", 0, 4, 0, 0, 0, 0);
        bears("the last is least", 3, 4, -8, -8, -8, -9);
        bears("of like ones the first", 1, 4, -1, -9, -9, -9);
        bears("one alone", 0, 1, -9);
        bears("one alone, 0", 0, 1, 0);
        bears("who is not there has no part", 1, 2, 0, -1, -9, -9);
        bears("who is not there, though it would be most", 1, 3, 0, -1, 0, 9);
    }

    private static void bearsOfDeeds() {
        says("Promise 16", "Who BEARS the COST of a DEED, if it is RIGHTED. BAD.");
        BackYear none = new BackYear();
        CHECK.beyond("of none", deed -> none.bears(deed), BAD, 0, -1);
        due("of none, deed 0", none.bears(0), BAD);
        BackYear x = oneADay();
        CHECK.beyond("of twelve", deed -> x.bears(deed), BAD, 0, 11);
        x.worth(11, 1, 1);
        due("deed 11", x.bears(11), 1);
        due("deed 0", x.bears(0), 0);
        BackYear y = Check.of(2, "pA,sAa");
        y.worth(1, 1, -1);
        due("of one that does not stand", y.bears(1), 1);
    }

    public static void main(String[] args) {
        kinds();
        righted();
        ofTheDay();
        standsAndNoneYet();
        right();
        back();
        newYear();
        fullOfYears();
        persons();
        mostAndLeast();
        bearers();
        bearsOfDeeds();
        CHECK.end();
    }
}

/** Promises 1 to 11: a new object, people, deeds, what is told of them, years as texts. */
public final class DeedsTest {
    private static final Check CHECK = new Check("DeedsTest");

    private DeedsTest() {
    }

    private static void due(String call, long got, long want) {
        CHECK.due(call, got, want);
    }

    private static void promise1() {
        BackYear x = new BackYear();
        due("1 people", x.count(0), 2);
        due("1 deeds", x.count(1), 0);
        due("1 the day and 1", x.count(2), 12);
        due("1 years", x.count(3), 0);
        due("1 standing", x.count(4), 0);
        due("1 righted", x.count(5), 0);
        due("1 last year", x.count(6), 0);
        due("1 no image", x.restore(), BackYear.NONE);
        for (int sheet = 0; sheet < 4; sheet++) {
            due("1 sheet " + sheet, x.drop(sheet), BackYear.NULL);
        }
        due("1 tape", x.type('p'), 1);
        BackYear y = new BackYear();
        x.people(4);
        x.deed(0, 0, 0);
        due("1 another object", y.count(0) * 100 + y.count(1), 200);
    }

    private static void promise2() {
        BackYear x = new BackYear();
        due("2 people(1)", x.people(1), 2);
        due("2 people(4)", x.people(4), 1);
        due("2 people(0)", x.people(0), -1);
        due("2 people(5)", x.people(5), -1);
        due("2 people(-1)", x.people(-1), -1);
        due("2 refused, none changed", x.count(0), 4);
        due("2 people(3)", x.people(3), 4);
        x.deed(0, 0, 0);
        Check.worths(x, 0, 1, 2, 3, 4);
        due("2 sum of three", x.value(-1), 6);
        x.people(1);
        due("2 sum of one", x.value(-1), 1);
        x.people(4);
        due("2 worths are kept", x.value(-1), 10);
    }

    private static void promise3() {
        BackYear x = new BackYear();
        due("3 deed", x.deed(0, 5, 0), 0);
        due("3 kind -1", x.deed(-1, 5, 0), -1);
        due("3 kind 4", x.deed(4, 5, 0), -1);
        due("3 day -1", x.deed(0, -1, 0), -1);
        due("3 day 12", x.deed(0, 12, 0), -1);
        due("3 needs itself", x.deed(0, 5, 2), -1);
        due("3 needs of a later day", x.deed(0, 4, 1), -1);
        due("3 needs below 0", x.deed(0, 11, -1), -1);
        due("3 needs far off", x.deed(0, 11, 1 << 31 | 1), -1);
        due("3 refused, none came", x.count(1), 1);
        due("3 needs of the same day", x.deed(3, 5, 1), 1);
        due("3 day 11, needs both", x.deed(2, 11, 3), 2);
        due("3 day 0", x.deed(1, 0, 0), 3);
        due("3 no need of the later", x.deed(1, 4, 8 | 2), -1);
        due("3 need of the earlier of later number", x.deed(1, 4, 8), 4);
        for (int d = 5; d < 12; d++) {
            due("3 deed " + d, x.deed(0, 11, (1 << d) - 1), d);
        }
        due("3 full", x.deed(0, 0, 0), -3);
        due("3 bad ahead of full", x.deed(4, 0, 0), -1);
        due("3 bad needs ahead of full", x.deed(0, 0, 1), -1);
        due("3 full, with needs", x.deed(0, 11, 4095), -3);
        due("3 bad, one there can't be", x.deed(0, 11, 4096), -1);
        due("3 refused, none came", x.count(1), 12);
    }

    private static void promise4() {
        BackYear x = Check.of(2, "pA,hCa,sCa");
        int[][] want = {{0, 0, 0, 1, 4, 1, 0}, {3, 2, 1, 1, 4, 1, 0}, {2, 2, 1, 1, 4, 0, 0}};
        for (int d = 0; d < 3; d++) {
            for (int what = 0; what < 7; what++) {
                due("4 told(" + d + ", " + what + ")", x.told(d, what), want[d][what]);
            }
        }
        x.set(1, 0, 7);
        x.set(1, 1, 0);
        due("4 cost", x.told(1, 3), 7);
        due("4 odds", x.told(1, 4), 0);
        for (int day = 11; day > 2; day--) {
            x.back();
        }
        x.right(1);
        due("4 righted", x.told(1, 6), 1);
        due("4 stands no more", x.told(1, 5), 0);
        due("4 what -1", x.told(0, -1), -1);
        due("4 what 7", x.told(0, 7), -1);
        due("4 deed -1", x.told(-1, 0), -1);
        due("4 deed 3", x.told(3, 0), -1);
        due("4 deed far off", x.told(Integer.MAX_VALUE, 0), -1);
        due("4 of none", new BackYear().told(0, 0), -1);
    }

    private static void promise5() {
        BackYear x = Check.of(2, "pA,pB");
        due("5 cost 9", x.set(0, 0, 9), 1);
        due("5 cost 0", x.set(0, 0, 0), 9);
        due("5 odds 0", x.set(0, 1, 0), 4);
        due("5 odds 4", x.set(0, 1, 4), 0);
        due("5 cost 10", x.set(0, 0, 10), -1);
        due("5 cost -1", x.set(0, 0, -1), -1);
        due("5 odds 5", x.set(0, 1, 5), -1);
        due("5 odds -1", x.set(0, 1, -1), -1);
        due("5 what 2", x.set(0, 2, 1), -1);
        due("5 what -1", x.set(0, -1, 1), -1);
        due("5 deed 2", x.set(2, 0, 1), -1);
        due("5 deed -1", x.set(-1, 0, 1), -1);
        due("5 refused: cost stays", x.told(0, 3), 0);
        due("5 refused: odds stay", x.told(0, 4), 4);
        due("5 the other's cost stays", x.told(1, 3), 1);
    }

    private static void promise6and7() {
        BackYear x = Check.of(2, "pA,pB");
        due("7 at first", x.worthOf(1, 3), 0);
        due("6 -9", x.worth(1, 3, -9), 0);
        due("6 9", x.worth(1, 3, 9), -9);
        due("7 told", x.worthOf(1, 3), 9);
        due("7 told of another", x.worthOf(1, 2) * 100 + x.worthOf(0, 3), 0);
        due("6 10", x.worth(1, 3, 10), -100001);
        due("6 -10", x.worth(1, 3, -10), -100001);
        due("6 person 4", x.worth(1, 4, 0), -100001);
        due("6 person -1", x.worth(1, -1, 0), -100001);
        due("6 deed 2", x.worth(2, 0, 0), -100001);
        due("6 deed -1", x.worth(-1, 0, 0), -100001);
        due("6 refused: stays", x.worthOf(1, 3), 9);
        due("7 below 0", x.worth(0, 0, -7) + x.worthOf(0, 0), -7);
        due("7 person 4", x.worthOf(1, 4), -100001);
        due("7 person -1", x.worthOf(1, -1), -100001);
        due("7 deed 2", x.worthOf(2, 0), -100001);
        due("7 deed -1", x.worthOf(-1, 0), -100001);
    }

    private static void promise8() {
        BackYear x = Check.of(2, "pA,hBa,hCb");
        due("8 last", x.last(6), 0);
        due("8 last once more", x.last(7), 6);
        due("8 a deed that there is not", x.last(8), -1);
        due("8 below 0", x.last(-1), -1);
        due("8 refused: stays", x.count(6), 7);
        due("8 none", x.last(0), 7);
        due("8 of no deeds", new BackYear().last(1), -1);
        due("8 none of no deeds", new BackYear().last(0), 0);
    }

    private static void promise9() {
        BackYear x = new BackYear();
        due("9 31", x.type(31), -1);
        due("9 127", x.type(127), -1);
        due("9 far off", x.type('p' + 65536), -1);
        due("9 below 0", x.type(-1), -1);
        due("9 32", x.type(32), 1);
        due("9 126", x.type(126), 2);
        for (int i = 3; i <= 80; i++) {
            due("9 letter " + i, x.type(32), i);
        }
        due("9 full", x.type(32), -3);
        due("9 bad ahead of full", x.type(31), -1);
        due("9 the tape as it was", x.text(), -21);
        due("9 empty then", x.type('p'), 1);
        BackYear y = new BackYear();
        for (int i = 0; i < 80; i++) {
            y.type(32);
        }
        due("10 blanks alone", y.text(), -100);
    }

    private static void reads(String letters, int want) {
        due("10 \"" + letters + "\"", Check.text(new BackYear(), letters), want);
    }

    private static void promise10faults() {
        reads("", -20);
        reads(" ", -21);
        reads("x", -20);
        reads("P", -20);
        reads("b", -20);
        reads(",pA", -20);
        reads("  xA", -22);
        reads("p", -21);
        reads("p ", -22);
        reads("pa", -21);
        reads("p@", -21);
        reads("pM", -21);
        reads("p,", -21);
        reads("pL", 1);
        reads("pA,", -23);
        reads("pA, ", -24);
        reads("pA,,", -23);
        reads("pA,A", -23);
        reads("pAB", -22);
        reads("pAa", -22);
        reads("pAb", -22);
        reads("pA,pAa", 2);
        reads("pA,pAb", -25);
        reads("pA,pAaa", -26);
        reads("pA,pA a a", -28);
        reads("pB,pAa", -25);
        reads("pA,pAam", -26);
        reads("pA,pAa`", -26);
        reads("pA,pAa{", -26);
        reads("pA,pBa,pCba", 3);
        reads("pC,pBa", -25);
        reads("pA,pLa,pBb", -29);
        reads("pA,pLa,pBab", -30);
        reads(" p A , s B a ", 2);
        reads("pApA", -22);
        reads("pA.pA", -22);
    }

    private static void promise10longest() {
        StringBuilder twelve = new StringBuilder("pA");
        for (int d = 1; d < 12; d++) {
            twelve.append(",pA");
        }
        reads(twelve.toString(), 12);
        reads(twelve + " ", 12);
        reads(twelve + "abcdefghijk", 12);
        reads(twelve + "l", -55);
        reads(twelve + ",", -55);
        reads(twelve + " ,pA", -56);
        reads(twelve + ",x", -55);
    }

    private static void promise10state() {
        BackYear x = Check.of(3, "hA,sBa,aBab,pCbc");
        int[][] want = {{3, 0, 0}, {2, 1, 1}, {1, 1, 3}, {0, 2, 6}};
        for (int d = 0; d < 4; d++) {
            for (int what = 0; what < 3; what++) {
                due("10 told(" + d + ", " + what + ")", x.told(d, what), want[d][what]);
            }
        }
        Check.worths(x, 0, 1, 2, 3, 4);
        x.set(0, 0, 5);
        x.set(0, 1, 2);
        x.year();
        x.right(3);
        x.back();
        int last = x.count(6);
        due("10 fault", Check.text(x, "pA,pBa,"), -27);
        due("10 a fault lets all be: deeds", x.count(1), 4);
        due("10 cost", x.told(0, 3), 5);
        due("10 worth", x.worthOf(0, 2), 3);
        due("10 day", x.count(2), 11);
        due("10 last year", x.count(6), last);
        due("10 years", x.count(3), 1);
        due("10 the tape is empty then", x.type('p'), 1);
        due("10 no rest of the one ahead", x.text(), -21);
        due("10 another year", Check.text(x, "pK,pLa"), 2);
        due("10 deeds", x.count(1), 2);
        due("10 people stay", x.count(0), 3);
        due("10 years stay", x.count(3), 1);
        due("10 the day", x.count(2), 12);
        due("10 last year none", x.count(6), 0);
        due("10 worths as at first", x.worthOf(0, 0) + x.worthOf(0, 1) + x.worthOf(0, 2) + x.worthOf(0, 3), 0);
        due("10 cost as at first", x.told(0, 3), 1);
        due("10 odds as at first", x.told(0, 4), 4);
        due("10 righting goes", x.right(1), 2);
        Check.text(x, "pL,pL");
        due("10 nothing righted", x.count(5), 0);
        x.deed(0, 11, 0);
        due("10 more deeds come behind", x.count(1), 3);
    }

    /** Years to come were asked for ahead: nothing of them may come to a text. */
    private static void promise10behindOthers() {
        BackYear x = Check.of(2, "pL,hA");
        x.last(2);
        for (int d = 0; d < 2; d++) {
            Check.worths(x, d, -9, -8, -7, -6);
            x.set(d, 0, 9);
            x.set(d, 1, 0);
        }
        x.right(0);
        x.back();
        x.comes(1, 0);
        x.people(3);
        due("10 behind others", Check.text(x, "pA"), 1);
        due("10 behind others: one more", x.deed(0, 0, 0), 1);
        for (int d = 0; d < 2; d++) {
            for (int person = 0; person < 4; person++) {
                due("10 behind others: worth of " + d + " to " + person, x.worthOf(d, person), 0);
            }
            due("10 behind others: cost of " + d, x.told(d, 3), 1);
            due("10 behind others: odds of " + d, x.told(d, 4), 4);
        }
        int[] want = {3, 2, 12, 0, 3, 0, 0};
        for (int what = 0; what < 7; what++) {
            due("10 behind others: count(" + what + ")", x.count(what), want[what]);
        }
    }

    private static void promise11() {
        BackYear x = Check.of(4, "pA,hBa,hLb,pL");
        x.last(2);
        x.right(3);
        x.back();
        int[] want = {4, 4, 11, 0, 7, 8, 2};
        for (int what = 0; what < 7; what++) {
            due("11 count(" + what + ")", x.count(what), want[what]);
        }
        due("11 count(-1)", x.count(-1), -1);
        due("11 count(7)", x.count(7), -1);
        x.year();
        due("11 years", x.count(3), 1);
        for (int day = 0; day < 12; day++) {
            x.back();
        }
        due("11 the year is over", x.count(2), 0);
    }

    public static void main(String[] args) {
        promise1();
        promise2();
        promise3();
        promise4();
        promise5();
        promise6and7();
        promise8();
        promise9();
        promise10faults();
        promise10longest();
        promise10state();
        promise10behindOthers();
        promise11();
        CHECK.end();
    }
}

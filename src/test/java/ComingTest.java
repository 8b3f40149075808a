/** Promises 24 to 29: a day forgotten, what is expected, years to come, images. */
public final class ComingTest {
    private static final Check CHECK = new Check("ComingTest");

    private ComingTest() {
    }

    private static void due(String call, long got, long want) {
        CHECK.due(call, got, want);
    }

    private static void forgotten(String what, BackYear x, int day, int told, int many, int sure) {
        due("24 " + what + ": how many", x.forgotten(day, told, 0), many);
        due("24 " + what + ": sure", x.forgotten(day, told, 1), sure);
    }

    private static void promise24() {
        BackYear x = Check.of(2, "pA,pBa,pBa,aCbc,sCb");
        forgotten("c it was", x, 1, 1 | 8 | 16, 1, 4);
        forgotten("b, perhaps c", x, 1, 1 | 8, 2, 2);
        forgotten("neither", x, 1, 1 | 16, 1, 0);
        forgotten("it can't be", x, 1, 1, 0, -4);
        forgotten("a must have stood", x, 1, 8, 0, -4);
        forgotten("the first day: b stood, so a did", x, 0, 2 | 4 | 8, 1, 1);
        forgotten("the first day: neither, so a did not", x, 0, 16, 1, 0);
        forgotten("the last day: any of its own", x, 2, 7, 4, 0);
        forgotten("a day of no deed", x, 11, 15, 1, 0);
        forgotten("a day of no deed, told wrong", x, 11, 14, 0, -4);
        x.last(2);
        due("24 a told one of that day", x.forgotten(1, 2, 0), -1);
        due("24 one that there is not", x.forgotten(1, 32, 0), -1);
        due("24 below 0", x.forgotten(1, -1, 0), -1);
        due("24 day -1", x.forgotten(-1, 0, 0), -1);
        due("24 day 12", x.forgotten(12, 0, 0), -1);
        due("24 what 2", x.forgotten(1, 0, 2), -1);
        due("24 what -1", x.forgotten(1, 0, -1), -1);
        due("24 told in a set with others", x.forgotten(2, 1 | 8, 1), -1);
    }

    private static void promise24more() {
        BackYear x = Check.of(2, "pL,pL,hLb,pK");
        x.right(0);
        forgotten("nothing is righted", x, 10, 7, 2, 0);
        forgotten("nothing is righted", x, 10, 6, 0, -4);
        x = Check.of(2, "pA,hBa");
        forgotten("of no year before", x, 0, 2, 1, 1);
        x.last(2);
        forgotten("of last year", x, 0, 2, 2, 0);
        forgotten("of last year it stands", x, 0, 0, 0, -4);
        x = new BackYear();
        forgotten("no deed", x, 4, 0, 1, 0);
        for (int d = 0; d < 12; d++) {
            x.deed(0, 4, 0);
        }
        forgotten("all of one day", x, 4, 0, 4096, 0);
        x = Check.of(2, "pA,pB,pB,pB,pCbd");
        forgotten("two of three sure", x, 1, 1 | 16, 2, 2 | 8);
    }

    private static void expected(String what, BackYear x, long upper, long lower) {
        due("25 " + what, x.upper(), upper);
        due("26 " + what, x.lower(), lower);
    }

    private static void promise25and26() {
        BackYear x = new BackYear();
        expected("no deed: 0 of 1", x, 0, 1);
        x = Check.of(2, "pA,sBa");
        Check.worths(x, 0, 3, -1, 9);
        expected("sure", x, 2, 1);
        x.set(0, 1, 3);
        expected("three of four", x, 3, 2);
        x.set(0, 1, 2);
        expected("two of four", x, 1, 1);
        x.set(0, 1, 1);
        expected("one of four", x, 1, 2);
        Check.worths(x, 1, -2, 1);
        expected("below 0", x, -1, 4);
        x.set(1, 1, 2);
        expected("apart", x, 1, 8);
        x.set(0, 1, 0);
        expected("not at all", x, -1, 2);
        x.set(1, 1, 0);
        expected("neither", x, 0, 1);
        x.people(3);
        x.set(0, 1, 3);
        expected("to one more", x, 33, 4);
        x.set(0, 0, 9);
        expected("costs count for nothing", x, 33, 4);
        Check.worths(x, 0, 3, -3, 0);
        expected("0 of 1", x, 0, 1);
    }

    private static void promise25more() {
        BackYear x = Check.of(1, "pL,hLa");
        Check.worths(x, 0, 1);
        Check.worths(x, 1, 4);
        x.set(0, 1, 2);
        x.set(1, 1, 1);
        expected("habit, if its need stands", x, 1, 1);
        x.last(2);
        expected("habit of last year", x, 3, 2);
        x.right(0);
        expected("what is righted counts for nothing", x, 3, 2);
        x = new BackYear();
        for (int d = 0; d < 12; d++) {
            x.deed(0, d, (1 << d) - 1);
            x.set(d, 1, 1);
        }
        x.worth(11, 0, 9);
        expected("all twelve, one after the other", x, 9, 1L << 24);
        x.worth(11, 0, -9);
        expected("all twelve, below 0", x, -9, 1L << 24);
        x = new BackYear();
        x.people(4);
        for (int d = 0; d < 12; d++) {
            x.deed(0, d, 0);
            Check.worths(x, d, -9, -9, -9, -9);
            x.set(d, 1, 3);
        }
        expected("the least that can be of these", x, -324, 1);
    }

    private static void comes(String what, BackYear x, int k, int behind, int ahead) {
        due("27 " + what + ": behind", x.comes(k, 0), behind);
        due("27 " + what + ": ahead", x.comes(k, 1), ahead);
    }

    private static void promise27() {
        comes("no deed", new BackYear(), 0, 1, 1);
        BackYear x = Check.of(1, "hA,sBa,hCb");
        comes("as it was a year ahead", x, 0, 2, 1);
        x.last(1);
        comes("at once", x, 0, 1, 1);
        Check.worths(x, 0, -3);
        Check.worths(x, 1, 1);
        Check.worths(x, 2, -2);
        x.set(0, 0, 0);
        x.set(1, 0, 2);
        x.last(6);
        x.right(0);
        x.back();
        comes("every other year", x, 3, 2, 2);
        comes("righting none", x, 0, 2, 1);
        comes("righting one", x, 1, 1, 1);
        due("27 all stays: last year", x.count(6), 6);
        due("27 all stays: years", x.count(3), 0);
        due("27 all stays: the day", x.count(2), 11);
        x.last(0);
        comes("every other year, from another on", x, 3, 3, 2);
        due("27 k -1", x.comes(-1, 0), -1);
        due("27 k 5", x.comes(5, 0), -1);
        due("27 what -1", x.comes(0, -1), -1);
        due("27 what 2", x.comes(0, 2), -1);
        due("27 k 4", x.comes(4, 0), 3);
    }

    private static void steps(BackYear x, int kind, int day, int needs, int worth, int cost) {
        int deed = x.deed(kind, day, needs);
        x.worth(deed, 0, worth);
        x.set(deed, 0, cost);
    }

    /** Goes through the years by the calls themselves. */
    private static void walks(String what, BackYear x, int k) {
        int behind = x.comes(k, 0);
        int ahead = x.comes(k, 1);
        int[] days = new int[x.count(1)];
        for (int d = 0; d < days.length; d++) {
            days[d] = x.told(d, 1);
        }
        int[] begun = new int[behind + 1];
        begun[0] = x.count(6);
        for (int year = 1; year <= behind; year++) {
            int walk = x.best(k, 0, 1);
            x.year();
            x.last(begun[year - 1]);
            for (int day = 11; day >= 0; day--) {
                for (int d = 0; d < days.length; d++) {
                    if ((walk >> d & 1) != 0 && days[d] == day) {
                        CHECK.holds("27 " + what + ": the best can be righted", x.right(d) > 0);
                    }
                }
                x.back();
            }
            x.year();
            begun[year] = x.count(6);
            for (int one = 0; one < year; one++) {
                boolean again = year == behind && one == behind - ahead;
                CHECK.holds("27 " + what + ": year " + year + " as " + one, begun[one] == begun[year] == again);
            }
        }
    }

    private static void promise27long() {
        BackYear x = new BackYear();
        x.people(1);
        int[][] deeds = {{3, 0, 0, -1, 3}, {2, 1, 1, 2, 0}, {3, 2, 1, -5, 3}, {3, 3, 5, 2, 3}, {0, 4, 1, -6, 0},
            {0, 5, 6, -2, 3}, {2, 6, 26, -5, 1}, {3, 7, 2, 1, 1}, {3, 8, 160, -3, 2}, {1, 9, 265, -6, 1},
            {2, 10, 766, -2, 0}};
        for (int[] deed : deeds) {
            steps(x, deed[0], deed[1], deed[2], deed[3], deed[4]);
        }
        x.last(743);
        comes("in six years, three ahead", x, 3, 6, 3);
        walks("in six years", x, 3);
        BackYear y = new BackYear();
        y.people(1);
        int[][] others = {{1, 0, 0, -2, 2}, {3, 1, 1, -4, 1}, {3, 2, 2, -4, 2}, {2, 3, 6, 2, 1}, {3, 4, 8, -2, 0}};
        for (int[] deed : others) {
            steps(y, deed[0], deed[1], deed[2], deed[3], deed[4]);
        }
        y.last(14);
        comes("in four years, two ahead", y, 2, 4, 2);
        walks("in four years", y, 2);
    }

    private static void tells(String when, BackYear x, int... counts) {
        for (int what = 0; what < counts.length; what++) {
            due(when + " count(" + what + ")", x.count(what), counts[what]);
        }
    }

    private static void promise28and29() {
        BackYear x = Check.of(3, "pA,hBa,pL");
        due("29 none", x.restore(), -4);
        x.year();
        x.last(2);
        x.set(0, 0, 7);
        x.set(1, 1, 3);
        x.worth(2, 3, -8);
        x.right(2);
        x.back();
        due("28 image", x.image(), 1);
        x.year();
        x.people(4);
        x.deed(0, 0, 0);
        x.set(0, 0, 2);
        x.set(1, 1, 1);
        x.worth(2, 3, 5);
        x.sheet(1, 2, 3);
        x.type('p');
        due("29 restore", x.restore(), 1);
        tells("29", x, 3, 3, 11, 1, 3, 4, 2);
        due("29 cost", x.told(0, 3), 7);
        due("29 odds", x.told(1, 4), 3);
        due("29 worth", x.worthOf(2, 3), -8);
        due("29 the sheet stays as it is", x.item(1, 2, 0, 0), 1);
        due("29 the tape stays as it is", x.type('A'), 2);
        due("29 the tape is read", x.text(), 1);
        tells("29 by the text", x, 3, 1, 12, 1, 1, 0, 0);
        x.drop(1);
        due("29 once more", x.restore(), 1);
        tells("29 once more", x, 3, 3, 11, 1, 3, 4, 2);
        for (int d = 0; d < 3; d++) {
            int[][] want = {{0, 0, 0}, {3, 1, 1}, {0, 11, 0}};
            for (int what = 0; what < 3; what++) {
                due("29 told(" + d + ", " + what + ")", x.told(d, what), want[d][what]);
            }
        }
        due("29 a sheet dropped stays so", x.drop(1), -11);
        x.people(1);
        x.image();
        x.people(2);
        x.restore();
        due("28 the later image counts", x.count(0), 1);
    }

    public static void main(String[] args) {
        promise24();
        promise24more();
        promise25and26();
        promise25more();
        promise27();
        promise27long();
        promise28and29();
        CHECK.end();
    }
}

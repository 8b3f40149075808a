/** Promises 12 to 16, and which deeds stand by their kinds. */
public final class WalkTest {
    private static final Check CHECK = new Check("WalkTest");

    private WalkTest() {
    }

    private static void due(String call, long got, long want) {
        CHECK.due(call, got, want);
    }

    private static void stand(String letters, int last, int want) {
        BackYear x = Check.of(2, letters);
        x.last(last);
        due("standing of " + letters + " with " + last, x.count(4), want);
    }

    /** Of the first two one stands and one does not: a PLAIN and a SPITE. */
    private static void kinds() {
        String two = "pA,sAa,";
        stand(two + "pA", 0, 5);
        stand(two + "pAa", 0, 5);
        stand(two + "pAab", 0, 1);
        stand(two + "pAb", 0, 1);
        stand(two + "aA", 0, 5);
        stand(two + "aAa", 0, 5);
        stand(two + "aAab", 0, 5);
        stand(two + "aAb", 0, 1);
        stand(two + "sA", 0, 5);
        stand(two + "sAa", 0, 1);
        stand(two + "sAab", 0, 1);
        stand(two + "sAb", 0, 5);
        stand(two + "hA", 0, 5);
        stand(two + "hAa", 0, 5);
        stand(two + "hAab", 0, 5);
        stand(two + "hAb", 0, 1);
        stand(two + "hAb", 4, 5);
        stand(two + "hAb", 3, 1);
        stand(two + "aAb", 4, 1);
        stand(two + "pAb", 4, 1);
        stand(two + "sAa", 4, 1);
    }

    private static void promise12() {
        BackYear x = Check.of(2, "pA,pKa,pLab,sLb,pL,pL");
        due("12 deed -1", x.right(-1), -1);
        due("12 deed 6", x.right(6), -1);
        due("12 not of the day", x.right(1), -2);
        due("12 does not stand", x.right(3), -2);
        due("12 rights", x.right(4), 16);
        due("12 one of the day is righted", x.right(5), -2);
        due("12 itself, again", x.right(4), -2);
        due("12 refused: none more", x.count(5), 16);
        x.back();
        due("12 of a day that is over", x.right(5), -2);
        due("12 what falls with it", x.right(1), 6);
        due("12 spite stands now", x.count(4), 1 | 8 | 32);
        due("12 righted", x.count(5), 18);
        while (x.count(2) > 1) {
            x.back();
        }
        due("12 the first, none falls again", x.right(0), 1);
        x.back();
        due("12 the year is over", x.right(0), -2);
        BackYear y = Check.of(2, "hL");
        y.last(1);
        due("12 a habit falls, too", y.right(0), 1);
        due("12 a habit does not stand", y.count(4), 0);
    }

    private static void promise13() {
        BackYear x = new BackYear();
        for (int day = 10; day >= -1; day--) {
            due("13 back to " + day, x.back(), day);
        }
        due("13 over", x.back(), -100002);
        due("13 still over", x.back(), -100002);
        due("13 the day", x.count(2), 0);
        x.year();
        due("13 in a new year", x.back(), 10);
    }

    private static void promise14() {
        BackYear x = Check.of(2, "pA,hLa,sLb,hLc");
        x.last(2);
        due("14 what stands", x.count(4), 3);
        due("14 right", x.right(1), 2);
        x.back();
        due("14 spite, and habit behind it", x.count(4), 1 | 4 | 8);
        due("14 a new year", x.year(), 3);
        due("14 last year", x.count(6), 13);
        due("14 what stands in it: spite does not, the habit goes on", x.count(4), 1 | 2 | 8);
        due("14 nothing is righted", x.count(5), 0);
        due("14 the day", x.count(2), 12);
        due("14 years", x.count(3), 1);
        due("14 none stands", new BackYear().year(), 0);
        BackYear y = new BackYear();
        for (int year = 1; year <= 9999; year++) {
            CHECK.holds("14 year " + year, y.year() == 0);
        }
        y.back();
        due("14 full", y.year(), -3);
        due("14 refused: the day stays", y.count(2), 11);
        due("14 refused: years stay", y.count(3), 9999);
    }

    private static void promise15() {
        BackYear x = Check.of(3, "pK,pLa,sLa");
        Check.worths(x, 0, 1, 0, -2, 9);
        Check.worths(x, 1, -3, 5, 4, 9);
        Check.worths(x, 2, 2, -8, 3, 9);
        x.set(0, 0, 6);
        x.set(1, 0, 9);
        due("15 value 0", x.value(0), -2);
        due("15 value 1", x.value(1), 5);
        due("15 value 2", x.value(2), 2);
        due("15 sum", x.value(-1), 5);
        due("15 right", x.right(1), 2);
        due("15 value 0: less a worth", x.value(0), 1);
        due("15 value 1: bears", x.value(1), -9);
        due("15 value 2", x.value(2), -2);
        due("15 sum", x.value(-1), -10);
        x.back();
        x.right(0);
        due("15 value 0: bears, and spite stands", x.value(0), -6 + 2);
        due("15 value 1", x.value(1), -9 - 8);
        due("15 value 2", x.value(2), 3);
        due("15 sum", x.value(-1), -18);
        due("15 nobody such", x.value(3), -100001);
        due("15 nobody below -1", x.value(-2), -100001);
        x.people(4);
        due("15 one more, to whom it is worth most: bears both", x.value(3), 9 - 6 - 9);
    }

    private static void bears(String what, int people, int want, int... worths) {
        BackYear x = Check.of(people, "pA");
        Check.worths(x, 0, worths);
        due("16 " + what, x.bears(0), want);
    }

    private static void promise16() {
        bears("most", 4, 2, 1, 2, 3, 0);
        bears("most, the first", 4, 1, 1, 3, 3, 3);
        bears("most, though one has less", 4, 3, -9, 0, -1, 1);
        bears("not above 0: least", 4, 2, -1, 0, -3, -2);
        bears("least, the first", 4, 1, -1, -3, -3, 0);
        bears("all 0: the first", 4, 0, 0, 0, 0, 0);
        bears("all alike below 0", 3, 0, -5, -5, -5);
        bears("of those that there are", 2, 0, 1, -1, 9, 9);
        bears("of those that there are, least", 2, 1, 0, -1, -9, -9);
        bears("one alone", 1, 0, -1);
        BackYear x = Check.of(2, "pA,pAa");
        due("16 deed -1", x.bears(-1), -1);
        due("16 deed 2", x.bears(2), -1);
    }

    public static void main(String[] args) {
        kinds();
        promise12();
        promise13();
        promise14();
        promise15();
        promise16();
        CHECK.end();
    }
}

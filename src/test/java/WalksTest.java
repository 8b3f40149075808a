/** Promises 17 to 23: the best walks, each for oneself, bargains, bills. */
public final class WalksTest {
    private static final Check CHECK = new Check("WalksTest");

    private WalksTest() {
    }

    private static void due(String call, long got, long want) {
        CHECK.due(call, got, want);
    }

    private static void best(BackYear x, String what, int k, int fair, int sum, int set) {
        due("17 " + what + ": sum", x.best(k, fair, 0), sum);
        due("17 " + what + ": set", x.best(k, fair, 1), set);
    }

    private static void promise17() {
        BackYear x = Check.of(2, "pL,pK");
        Check.worths(x, 0, -3, 0);
        Check.worths(x, 1, 4, -6);
        best(x, "of none", 0, 0, -5, 0);
        best(x, "of one", 1, 0, -3, 1);
        best(x, "of two", 2, 0, -2, 3);
        best(x, "of two, fair", 2, 1, -3, 1);
        best(x, "of none, fair", 0, 1, -5, 0);
        x.right(0);
        best(x, "what is righted now counts for nothing", 2, 0, -2, 3);
        best(x, "fair likewise", 2, 1, -3, 1);
        due("17 nothing is righted by it", x.count(5), 1);
        due("17 k -1", x.best(-1, 0, 0), -100001);
        due("17 k 5", x.best(5, 0, 0), -100001);
        due("17 fair -1", x.best(0, -1, 0), -100001);
        due("17 fair 2", x.best(0, 2, 0), -100001);
        due("17 what -1", x.best(0, 0, -1), -100001);
        due("17 what 2", x.best(0, 0, 2), -100001);
    }

    private static void promise17likeOnes() {
        BackYear x = Check.of(1, "pA,pB,aCab");
        Check.worths(x, 2, -5);
        Check.costs(x, 0, 0, 0);
        best(x, "the fewest, then the least set", 4, 0, 0, 4);
        BackYear y = Check.of(1, "pA,pA,pB");
        Check.worths(y, 0, -3);
        Check.worths(y, 1, -3);
        Check.worths(y, 2, -3);
        best(y, "the least set", 1, 0, -7, 1);
        best(y, "no two of one day", 4, 0, -5, 5);
        Check.costs(y, 3, 3, 3);
        best(y, "none without a gain", 4, 0, -9, 0);
        BackYear z = Check.of(1, "pA,pB,pC,pD,pE,pF");
        for (int d = 0; d < 6; d++) {
            z.worth(d, 0, -2);
        }
        best(z, "of four at most", 4, 0, -8, 15);
        best(z, "of three at most", 3, 0, -9, 7);
    }

    private static void promise17walks() {
        BackYear x = Check.of(1, "pA,sBa,hBb");
        Check.worths(x, 0, -1);
        Check.worths(x, 1, -9);
        Check.worths(x, 2, -4);
        best(x, "not one that would come to stand by it", 4, 0, -1, 0);
        x.last(4);
        best(x, "last year counts", 4, 0, -2, 4);
        BackYear y = Check.of(3, "pA,pB");
        Check.worths(y, 0, -9, -9, 1);
        Check.worths(y, 1, -1, 0, 0);
        Check.costs(y, 2, 1);
        best(y, "nobody worse off: the third bears it, too", 4, 1, -18, 0);
        Check.costs(y, 2, 0);
        best(y, "fair, a free one", 4, 1, -17, 2);
        best(y, "not fair", 4, 0, -2, 3);
        y.people(2);
        best(y, "fair to those that there are", 4, 1, -2, 3);
    }

    private static void promise18() {
        BackYear x = Check.of(2, "pA,pBa,sBa,pCb,pC");
        due("18 nothing asked", x.wanted(0, 0), 0);
        due("18 none of b: the least of one", x.wanted(0, 2), 1);
        due("18 a, not b", x.wanted(1, 2), 2);
        due("18 not d", x.wanted(3, 8), 8);
        due("18 c stands", x.wanted(4, 0), 1);
        due("18 c stands, e does not", x.wanted(4, 16), 17);
        due("18 b, not a", x.wanted(2, 1), -4);
        due("18 d, e not: one a day is enough", x.wanted(8, 16), 16);
        due("18 two of one day, one falls with b", x.wanted(1, 8 | 16), 18);
        due("18 two of one day", x.wanted(3, 8 | 16), -4);
        due("18 one in common", x.wanted(3, 2), -1);
        due("18 must far off", x.wanted(32, 0), -1);
        due("18 not far off", x.wanted(0, 32), -1);
        due("18 must below 0", x.wanted(-1, 0), -1);
        due("18 not below 0", x.wanted(0, -1), -1);
        x.right(4);
        due("18 what is righted now counts for nothing", x.wanted(16, 0), 0);
        BackYear y = Check.of(2, "pA,pB,pC,pD,pE");
        due("18 four", y.wanted(16, 15), 15);
        due("18 five are too many", y.wanted(0, 31), -4);
        BackYear z = Check.of(2, "pA,pB,aCab");
        due("18 the fewest ahead of the least set", z.wanted(0, 4), 4);
        due("18 habit of last year", habits(0), 1);
        due("18 habit of last year", habits(2), -4);
        due("18 of no deeds", new BackYear().wanted(0, 0), 0);
    }

    private static int habits(int last) {
        BackYear x = Check.of(2, "pA,hAa");
        x.last(last);
        return x.wanted(0, 3);
    }

    private static BackYear threeDeeds() {
        BackYear x = Check.of(2, "pA,pB,pCab");
        Check.worths(x, 0, -2, -3);
        Check.worths(x, 2, 5, 1);
        Check.costs(x, 0, 0, 0);
        return x;
    }

    private static void promise19and20() {
        BackYear x = threeDeeds();
        due("19 one knows what the other will do", x.self(), 3);
        due("20 turn(0): worse off by one's turns", x.turn(0), -3);
        due("20 turn(1)", x.turn(1), 2);
        due("20 turn(2)", x.turn(2), -100001);
        due("20 turn(-1)", x.turn(-1), -100001);
        x.right(0);
        due("19 nothing comes of it", x.count(5), 0);
        x.people(1);
        due("19 one alone keeps what is worth it", x.self(), 0);
        due("20 one alone", x.turn(0), 0);
        due("19 no deed", new BackYear().self(), 0);
        due("20 no deed", new BackYear().turn(1), 0);
    }

    private static void promise19likeOnes() {
        BackYear x = Check.of(2, "pA,pA");
        Check.worths(x, 0, -2, 0);
        Check.worths(x, 1, -2, 0);
        due("19 the least deed of like ones", x.self(), 1);
        due("20 it is worth", x.turn(0), 1);
        Check.costs(x, 2, 2);
        due("19 nothing first of like ones", x.self(), 0);
        Check.costs(x, 2, 1);
        due("19 the better deed", x.self(), 2);
        due("20 nothing to choose for 1", x.turn(1), 0);
        BackYear y = Check.of(3, "pB,pC,pD,pL");
        for (int d = 0; d < 4; d++) {
            Check.worths(y, d, -3, -3, -3);
            y.set(d, 0, 0);
        }
        due("19 each on own days", y.self(), 15);
        due("20 of two days, in three people", y.turn(2), 6);
        due("20 of one day", y.turn(1), 3);
        due("20 of one day", y.turn(0), 3);
        Check.worths(y, 3, 0, 0, 1);
        due("19 day 11 is of person 2", y.self(), 7);
    }

    private static void bargain(String what, BackYear x, int first, int other, int loss, int gain) {
        due("21 " + what + ": loss", x.bargain(0, first, other, 0), loss);
        due("21 " + what + ": gain", x.bargain(0, first, other, 1), gain);
    }

    private static void promise21() {
        BackYear x = Check.of(3, "pA,pAa,sA");
        Check.worths(x, 0, -4, 3, -1);
        bargain("as much as it is worth", x, 0, 1, 4, 4);
        bargain("the other has no loss", x, 0, 2, 0, 4);
        bargain("no gain", x, 1, 0, -4, -4);
        bargain("less than the loss", x, 2, 1, -4, -4);
        Check.costs(x, 2);
        bargain("less than the loss by the cost", x, 0, 1, -4, -4);
        Check.costs(x, 0);
        bargain("more than the loss", x, 0, 1, 3, 4);
        Check.worths(x, 1, -2, 1);
        bargain("with what falls", x, 0, 1, 4, 6);
        Check.worths(x, 0, 0, 0, 0);
        Check.worths(x, 1, 0, 0, 0);
        bargain("gain 0, loss 0", x, 0, 1, -4, -4);
        Check.worths(x, 0, -1, 1, 0);
        bargain("the least gain", x, 0, 1, 1, 1);
        bargain("gain 0, the other has one", x, 2, 0, -4, -4);
        due("21 deed 3", x.bargain(3, 0, 1, 0), -1);
        due("21 deed -1", x.bargain(-1, 0, 1, 0), -1);
        due("21 first 3", x.bargain(0, 3, 1, 0), -1);
        due("21 first -1", x.bargain(0, -1, 1, 0), -1);
        due("21 other 3", x.bargain(0, 0, 3, 0), -1);
        due("21 other -1", x.bargain(0, 0, -1, 0), -1);
        due("21 one alike", x.bargain(0, 1, 1, 0), -1);
        due("21 what 2", x.bargain(0, 0, 1, 2), -1);
        due("21 what -1", x.bargain(0, 0, 1, -1), -1);
        BackYear y = Check.of(2, "pL,pLa,sLa");
        Check.worths(y, 2, -9, 0);
        due("21 does not stand", y.bargain(2, 0, 1, 0), -2);
        due("21 bad ahead of it", y.bargain(2, 0, 0, 0), -1);
        y.right(0);
        due("21 stands no more", y.bargain(0, 0, 1, 0), -2);
        due("21 as all is now, too, one of the same day", y.bargain(2, 0, 1, 1), 8);
    }

    private static void dues(String what, BackYear x, int... want) {
        for (int person = 0; person < want.length; person++) {
            due("22 " + what + ": " + person, x.due(person), want[person]);
        }
    }

    private static BackYear righted(int people, int days, int[] costs, int[]... worths) {
        String letters = "pL,pK,pJ".substring(0, 3 * days - 1);
        BackYear x = Check.of(people, letters);
        for (int d = 0; d < days; d++) {
            x.set(d, 0, costs[d]);
            Check.worths(x, d, worths[d]);
            x.right(d);
            x.back();
        }
        return x;
    }

    private static void promise22and23() {
        BackYear x = righted(4, 1, new int[] {8}, new int[] {5, -1, -2, -3});
        dues("what is left to the first", x, -8, 4, 2, 2);
        due("23 one pays three", x.payments(), 3);
        due("22 due(4)", x.due(4), -100001);
        due("22 due(-1)", x.due(-1), -100001);
        x.people(3);
        dues("of those that there are", x, -8, 4, 4);
        due("23 one pays two", x.payments(), 2);
        due("22 nobody more", x.due(3), -100001);
        x = righted(3, 1, new int[] {7}, new int[] {0, -4, -2});
        dues("the one harmed most bears it, owes the other", x, 0, -7, 7);
        due("23 one payment", x.payments(), 1);
        x = righted(2, 1, new int[] {7}, new int[] {5, 0});
        dues("to nobody", x, 0, 0);
        due("23 none", x.payments(), 0);
        x = righted(3, 1, new int[] {1}, new int[] {5, -1, -1});
        dues("cut", x, -1, 1, 0);
        due("23 nothing is due to 2", x.payments(), 1);
        x = Check.of(2, "pL");
        Check.worths(x, 0, 5, -1);
        dues("nothing righted", x, 0, 0);
    }

    private static void promise23() {
        int[] first = {5, -1, 0, 0};
        int[] second = {0, 0, 5, -1};
        BackYear x = righted(4, 2, new int[] {3, 5}, first, second);
        dues("two by two", x, -3, 3, -5, 5);
        due("23 two by two", x.payments(), 2);
        x = righted(4, 3, new int[] {3, 5, 1}, first, second, new int[] {0, 0, -1, 5});
        dues("two by two, some back", x, -3, 3, -4, 4);
        due("23 two by two, some back", x.payments(), 2);
        x = righted(4, 3, new int[] {3, 5, 1}, first, second, new int[] {0, 5, 0, -1});
        dues("all four", x, -3, 2, -5, 6);
        due("23 all four", x.payments(), 3);
        x = righted(2, 2, new int[] {4, 4}, new int[] {5, -1}, new int[] {-1, 5});
        dues("one for the other", x, 0, 0);
        due("23 one for the other", x.payments(), 0);
        due("23 no deed", new BackYear().payments(), 0);
    }

    public static void main(String[] args) {
        promise17();
        promise17likeOnes();
        promise17walks();
        promise18();
        promise19and20();
        promise19likeOnes();
        promise21();
        promise22and23();
        promise23();
        CHECK.end();
    }
}

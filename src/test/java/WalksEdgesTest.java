/** Promises 17 to 23 at their edges, one sentence of the document after the other. */
public final class WalksEdgesTest {
    private static final Check CHECK = new Check("WalksEdgesTest");
    private static final int BAD = BackYear.BAD, NOT = BackYear.NOT, NONE = BackYear.NONE, BAD_LESS = -100001;
    private static final int PLAIN = 0, ANY = 1;
    private static final String TWELVE = "pA,pB,pC,pD,pE,pF,pG,pH,pI,pJ,pK,pL";
    private static final String BEST = "BEST of k (0 .. 4): of all WALKS of at most k DEEDS that by which SUM is most";
    private static final String LIKE = "of like ones that of the fewest DEEDS, then the least set.";
    private static final String FAIR = "FAIR: likewise of those alone by which nobody's VALUE is less than if nothing "
        + "were RIGHTED.";
    private static final String WANTED = "WANTED: of all WALKS of at most 4 DEEDS by which all of a told set STAND and "
        + "none of another one: that of the fewest, of like ones the least set.";
    private static final String BARGAIN = "There is one, if GAIN is no less than LOSS, and GAIN above 0: from LOSS (0 at "
        + "least) to GAIN.";
    private static final String BILLS = "owes it to the others to whom its WORTH is below 0, parted alike, cut, what is "
        + "left to the first of these; if there is none, to nobody.";

    private WalksEdgesTest() {
    }

    private static void due(String call, long got, long want) {
        CHECK.due(call, got, want);
    }

    private static void says(String where, String words) {
        CHECK.says(where, words);
    }

    /** To all of the first so many people the same. */
    private static void worthToAll(BackYear x, int people, int worth) {
        for (int d = 0; d < x.count(1); d++) {
            for (int p = 0; p < people; p++) {
                x.worth(d, p, worth);
            }
        }
    }

    private static void best(String what, BackYear x, int k, int fair, int sum, int set) {
        due(what + ", best of " + k + ", fair " + fair + ": sum", x.best(k, fair, 0), sum);
        due(what + ", best of " + k + ", fair " + fair + ": set", x.best(k, fair, 1), set);
    }

    // ---- walks

    private static void whatAWalkIs() {
        says("Terms", "A WALK is a set of DEEDS, no two of one DAY, all of which would STAND, if nothing were RIGHTED "
            + "(LAST YEAR as it is).");
        BackYear x = Check.of(1, "pA,pA,pB,pL,pL");
        worthToAll(x, 1, -3);
        best("no two of one day", x, 4, 0, -9, 1 | 4 | 8);
        best("nor two of two days", x, 2, 0, -11, 1 | 4);
        due("wanted: two of one day", x.wanted(0, 3), NONE);
        due("wanted: two of the last day", x.wanted(0, 24), NONE);
        due("wanted: one of each of three days", x.wanted(3 - 1, 1 | 4 | 8), 1 | 4 | 8);
        BackYear between = Check.of(1, "pA,pB,pA,pB,pC,pA");
        worthToAll(between, 1, -3);
        best("no two of one day, with others between", between, 4, 0, -18 + 6, 1 | 2 | 16);
        due("wanted: two of one day, with another between", between.wanted(0, 1 | 2 | 4), NONE);
        BackYear y = Check.of(1, "pA,sAa,hBb");
        worthToAll(y, 1, -5);
        best("one that would not stand", y, 4, 0, -5, 0);
        due("wanted: not one that comes to stand by it", y.wanted(4, 1 | 2), NONE);
        y.last(4);
        best("a habit of last year would", y, 4, 0, -6, 4);
        y.worth(0, 0, 0);
        y.set(2, 0, 0);
        due("a habit of last year can be chosen", y.self(), 4);
        y.last(0);
        due("another one can't", y.self(), 0);
        says("Terms", "By it just these are RIGHTED.");
        BackYear chain = Check.of(1, "pA,pBa,pCb,sDc");
        worthToAll(chain, 1, -5);
        chain.worth(3, 0, 9);
        best("what falls by it costs nothing", chain, 4, 0, 9 - 1, 1);
        says("Terms", "(What is RIGHTED now counts for nothing.)");
        BackYear z = Check.of(1, "pK,pL,pKa");
        worthToAll(z, 1, -5);
        for (int day = 11; day >= -1; day--) {
            best("on day " + day, z, 4, 0, -5 + 3, 3);
            best("on day " + day, z, 4, 1, -5 + 3, 3);
            due("wanted on day " + day, z.wanted(1 | 4, 2), 2);
            due("self on day " + day, z.self(), 3);
            z.right(day == 11 ? 1 : 0);
            z.back();
        }
        due("two are righted now", z.count(5), 3);
    }

    private static void bestOfK() {
        says("Terms", BEST);
        BackYear x = Check.of(1, TWELVE);
        worthToAll(x, 1, -9);
        for (int k = 0; k <= 4; k++) {
            best("of twelve", x, k, 0, -108 + 8 * k, (1 << k) - 1);
            best("of twelve", x, k, 1, -108 + 8 * k, (1 << k) - 1);
        }
        x.set(11, 0, 0);
        best("the best one is the last", x, 1, 0, -99, 2048);
        best("the best one is the last", x, 4, 0, -108 + 33, 2048 | 7);
        worthToAll(x, 1, 9);
        best("none is better", x, 4, 0, 108, 0);
        BackYear four = Check.of(4, TWELVE);
        worthToAll(four, 4, -9);
        best("the least sum", four, 0, 0, -432, 0);
        best("with nobody worse off", four, 4, 1, -432 + 4 * 35, 15);
        worthToAll(four, 4, 9);
        best("the greatest sum", four, 4, 0, 432, 0);
        best("the greatest sum", four, 0, 1, 432, 0);
        BackYear one = Check.of(1, "pA");
        one.worth(0, 0, -2);
        best("one", one, 0, 0, -2, 0);
        best("one", one, 1, 0, -1, 1);
        best("one", one, 4, 0, -1, 1);
    }

    private static void likeOnes() {
        says("Terms", LIKE);
        BackYear x = Check.of(1, "pA");
        x.worth(0, 0, -1);
        best("nothing, if one is no better", x, 4, 0, -1, 0);
        x.set(0, 0, 0);
        best("one, if it is better by 1", x, 4, 0, 0, 1);
        x.worth(0, 0, 0);
        best("nothing, if all is 0", x, 4, 0, 0, 0);
        BackYear y = Check.of(1, "pA,pB,aCab");
        y.worth(2, 0, -5);
        Check.costs(y, 0, 0, 0);
        best("one ahead of two, though its set is greater", y, 4, 0, 0, 4);
        y.set(2, 0, 1);
        best("two, if they are better by 1", y, 4, 0, 0, 3);
        BackYear z = Check.of(1, "pA,pB,pC,pD,aEad,aEbc");
        z.worth(4, 0, -9);
        z.worth(5, 0, -9);
        Check.costs(z, 0, 0, 0, 0, 9, 9);
        best("the least set is that of the least bits, not of the least deed", z, 2, 0, -9, 6);
        best("the least set, fair", z, 3, 1, -9, 6);
        best("more deeds, if better", z, 4, 0, 0, 15);
        BackYear of12 = Check.of(1, TWELVE);
        for (int d = 11; d >= 0; d--) {
            of12.worth(d, 0, -2);
            best("the least of like ones", of12, 1, 0, -2 * (12 - d) + 1, 1 << d);
        }
    }

    private static void fair() {
        says("Terms", FAIR);
        for (int people = 2; people <= 4; people++) {
            int last = people - 1;
            BackYear x = Check.of(people, "pA");
            x.worth(0, 0, -9);
            best("the last's value is no less", x, 4, 1, -1, 1);
            x.worth(0, last, 1);
            x.set(0, 0, 0);
            best("the last's value is 1 less", x, 4, 1, -8, 0);
            best("it counts for nothing, if not fair", x, 4, 0, 0, 1);
            x.worth(0, last, -1);
            best("the last's value is 1 more", x, 4, 1, 0, 1);
            x.worth(0, 0, 1);
            x.worth(0, last, -9);
            best("the first's value is 1 less", x, 4, 1, -8, 0);
            x.worth(0, 0, 0);
            best("the first's value is no less", x, 4, 1, 0, 1);
            x.worth(0, last, 9);
            x.people(people - 1);
            x.worth(0, 0, -1);
            best("who is not there is not asked", x, 4, 1, 0, 1);
        }
        BackYear y = Check.of(2, "pA,pB");
        Check.worths(y, 0, -9, 1);
        Check.worths(y, 1, -3, -1);
        Check.costs(y, 0, 0);
        best("the best of those alone", y, 1, 1, -8, 2);
        best("the best", y, 1, 0, -4, 1);
        Check.worths(y, 1, -3, -2);
        best("less by one, more by the other", y, 2, 1, 0, 3);
        Check.worths(y, 1, -3, -1);
        best("no less in the end", y, 2, 1, 0, 3);
        Check.worths(y, 1, -3, 0);
        best("1 less in the end", y, 2, 1, -8, 2);
        says("Terms", "by which nobody's VALUE is less than if nothing were RIGHTED");
        BackYear z = Check.of(2, "pL");
        Check.worths(z, 0, -9, 5);
        z.right(0);
        best("not than as all is now", z, 4, 1, -4, 0);
    }

    private static void bestRefused() {
        says("Promise 17", "BEST of k (fair 0), FAIR (1): SUM (0), the set (1). BAD less 100000.");
        for (String deeds : new String[] {"pA", TWELVE}) {
            for (int f = 0; f <= 1; f++) {
                for (int w = 0; w <= 1; w++) {
                    BackYear x = Check.of(2, deeds);
                    int fair = f;
                    int what = w;
                    CHECK.beyond("k", k -> x.best(k, fair, what), BAD_LESS, 0, 4);
                    CHECK.beyond("fair", other -> x.best(4, other, what), BAD_LESS, 0, 1);
                    CHECK.beyond("what", other -> x.best(0, fair, other), BAD_LESS, 0, 1);
                }
            }
        }
        BackYear x = Check.of(1, "pA");
        x.worth(0, 0, -1);
        due("a sum of -1, though that is how BAD is told", x.best(0, 0, 0), -1);
    }

    // ---- wanted

    private static void wanted() {
        says("Terms", WANTED);
        BackYear x = Check.of(2, TWELVE);
        due("none is asked for", x.wanted(0, 0), 0);
        due("all stand", x.wanted(4095, 0), 0);
        due("one not", x.wanted(0, 1), 1);
        due("the last not, all others", x.wanted(2047, 2048), 2048);
        due("four not", x.wanted(0, 0xF00), 0xF00);
        due("four not, all others", x.wanted(0xFF, 0xF00), 0xF00);
        due("five not", x.wanted(0, 0xF80), NONE);
        due("none of all", x.wanted(0, 4095), NONE);
        BackYear y = new BackYear();
        for (int d = 0; d < 12; d++) {
            y.deed(PLAIN, d, d == 0 ? 0 : 1 << d - 1);
        }
        due("all fall with the first", y.wanted(0, 4095), 1);
        due("the last: the least set of one", y.wanted(0, 2048), 1);
        due("the last, but not the one ahead", y.wanted(2047, 2048), 2048);
        due("the last, though the first does not", y.wanted(2048, 1), NONE);
        BackYear z = Check.of(2, "pA,pB,pC,pD,aEad,aEbc,sFef,pG,pH");
        due("one of like ones, though of a greater number than others", z.wanted(0, 16), 16);
        due("two of like ones: the least set", z.wanted(16 | 32, 8 | 4), 12);
        due("one ahead of two", z.wanted(1, 16), 16);
        due("spite comes to stand by three, since two of these are of one day", z.wanted(64, 0), 2 | 4 | 16);
        due("four", z.wanted(64, 128), 2 | 4 | 16 | 128);
        due("five", z.wanted(64, 128 | 256), NONE);
        BackYear t = Check.of(2, "pA,pB,aCa,sDac,sDbc");
        due("one lets it stand", t.wanted(8, 0), 1);
        due("another set of one would not", t.wanted(8 | 2, 0), 1);
        due("two", t.wanted(16, 0), 2 | 1);
    }

    private static void likeWanted() {
        says("Terms", "that of the fewest, of like ones the least set");
        BackYear x = new BackYear();
        for (int d = 0; d < 4; d++) {
            x.deed(PLAIN, d, 0);
        }
        x.deed(ANY, 4, 1 | 8);
        x.deed(ANY, 4, 2 | 4);
        x.deed(PLAIN, 5, 16 | 32);
        due("5 needs both: one alone", x.wanted(0, 64), 16);
        x.deed(2, 6, 64);
        due("one is enough for spite", x.wanted(128, 0), 16);
        due("both stand: itself", x.wanted(48, 64), 64);
        due("neither of the two, the last stays", x.wanted(0, 16 | 32), 1 << 4 | 0b0110);
        x.deed(ANY, 6, 1 | 2);
        due("least of two", x.wanted(0, 256), 256);
        due("two, for itself must be no more", x.wanted(0, 1 | 2), 3);
    }

    private static void wantedRefused() {
        says("Promise 18", "WANTED: the set. BAD: also sets with one in common; NONE.");
        for (int many : new int[] {0, 1, 5, 12}) {
            BackYear x = new BackYear();
            for (int d = 0; d < many; d++) {
                x.deed(PLAIN, d, 0);
            }
            CHECK.beyondSets("must, of " + many, must -> x.wanted(must, 0), BAD, many);
            CHECK.beyondSets("not, of " + many, not -> x.wanted(0, not), BAD, many);
            int all = (1 << many) - 1;
            for (int d = 0; d < many; d++) {
                due("deed " + d + " in common", x.wanted(1 << d, 1 << d), BAD);
                due("deed " + d + " in common with all", x.wanted(all, 1 << d), BAD);
                due("deed " + d + " of all in common", x.wanted(1 << d, all), BAD);
                due("deed " + d + " not, all others", x.wanted(all & ~(1 << d), 1 << d), 1 << d);
            }
        }
        says("Terms", "Answers below 0, of several the first that a call names");
        BackYear x = Check.of(2, "pA,pA");
        due("there is none", x.wanted(0, 3), NONE);
        due("one in common, and none", x.wanted(1, 3), BAD);
        due("one that there is not, and none", x.wanted(4, 3), BAD);
        due("not one that there is not, and none", x.wanted(0, 7), BAD);
    }

    // ---- each for oneself

    private static void whoChooses() {
        says("Terms", "SELF: on DAYS 11, 10 .. 0 in turn the one whose number DAY leaves over by how many PEOPLE there "
            + "are");
        for (int people = 1; people <= 4; people++) {
            for (int day = 0; day <= 11; day++) {
                for (int p = 0; p < people; p++) {
                    BackYear x = new BackYear();
                    x.people(people);
                    x.deed(PLAIN, day, 0);
                    Check.worths(x, 0, 1, 1, 1, 1);
                    x.worth(0, p, -1);
                    x.set(0, 0, 0);
                    boolean chooses = p == day % people;
                    due(people + " people, day " + day + ", " + p + " would right it", x.self(), chooses ? 1 : 0);
                    due("its turn", x.turn(p), chooses ? 1 : 0);
                    due("the first's turn", x.turn(0), chooses && p == 0 ? 1 : 0);
                }
            }
        }
    }

    private static void likeChoices() {
        says("Terms", "of like ones nothing first, then the least DEED");
        BackYear x = Check.of(1, "pA");
        x.worth(0, 0, -1);
        due("no better", x.self(), 0);
        x.set(0, 0, 0);
        due("better by 1", x.self(), 1);
        x.worth(0, 0, 0);
        due("all 0", x.self(), 0);
        BackYear y = new BackYear();
        y.people(1);
        for (int d = 0; d < 12; d++) {
            y.deed(PLAIN, 11, 0);
            y.worth(d, 0, -2);
        }
        due("the least of twelve of one day", y.self(), 1);
        due("its turn", y.turn(0), 1);
        y.worth(11, 0, -3);
        due("the last is better by 1", y.self(), 2048);
        due("its turn", y.turn(0), 2);
        y.worth(5, 0, -3);
        due("the least of two better ones", y.self(), 32);
        says("Terms", "chooses nothing, or a DEED of that DAY that would STAND, if nothing were RIGHTED");
        BackYear z = Check.of(1, "pK,sKa,sLa");
        worthToAll(z, 1, -9);
        z.worth(0, 0, 9);
        z.worth(1, 0, -9);
        due("those would not stand, and the first is worth it", z.self(), 0);
        z.worth(0, 0, -9);
        z.worth(1, 0, 9);
        z.worth(2, 0, -1);
        due("the first is not, spite comes to stand", z.self(), 1);
    }

    private static void knowing() {
        says("Terms", "each so that the own VALUE at the end is most, knowing that all do so");
        BackYear x = Check.of(1, TWELVE);
        worthToAll(x, 1, -9);
        due("all twelve days", x.self(), 4095);
        due("turn, alone", x.turn(0), 12 * 8);
        BackYear y = Check.of(4, TWELVE);
        worthToAll(y, 4, -9);
        Check.costs(y, 0, 0, 0, 0, 0, 0, 0, 0, 0, 0, 0, 0);
        due("all twelve days of four", y.self(), 4095);
        for (int p = 0; p < 4; p++) {
            due("turn of " + p + ": three days", y.turn(p), 27);
        }
        worthToAll(y, 4, 9);
        due("none of twelve", y.self(), 0);
        BackYear z = Check.of(2, "pA,pB,pCab");
        Check.worths(z, 0, -2, -3);
        Check.worths(z, 2, 5, 1);
        Check.costs(z, 0, 0, 0);
        due("one leaves to the other what is done anyhow", z.self(), 3);
        due("turn of 0: below 0", z.turn(0), -3);
        due("turn of 1", z.turn(1), 2);
    }

    private static void turns() {
        says("Promise 19", "SELF: the set.");
        BackYear x = Check.of(2, "pL");
        x.worth(0, 1, -9);
        due("nothing is righted by it", x.self() + x.count(5), 1);
        says("Terms", "TURN of one: the own VALUE by SELF less what it would be by it, if that one always chose nothing.");
        due("who chooses", x.turn(1), 8);
        due("who has nothing to choose", x.turn(0), 0);
        x.worth(0, 0, 9);
        x.set(0, 0, 9);
        due("the other bears the cost: its own turns are none", x.turn(0), 0);
        due("who chooses, at no cost", x.turn(1), 9);
        BackYear y = Check.of(2, "pA,pB");
        Check.worths(y, 0, -3, -3);
        Check.worths(y, 1, -3, -3);
        due("both choose", y.self(), 3);
        due("the other's choice is as it was", y.turn(0), 2);
        due("the other's choice is as it was, who bears nothing", y.turn(1), 3);
    }

    private static void turnRefused() {
        says("Promise 20", "TURN of one. BAD less 100000.");
        for (int people = 1; people <= 4; people++) {
            BackYear x = Check.of(people, TWELVE);
            CHECK.beyond("person of " + people, person -> x.turn(person), BAD_LESS, 0, people - 1);
            due("the last", x.turn(people - 1), 0);
        }
        BackYear z = Check.of(2, "pA,pB,pCab");
        Check.worths(z, 0, -2, -3);
        Check.worths(z, 2, 3, 1);
        Check.costs(z, 0, 0, 0);
        due("a turn of -1, though that is how BAD is told", z.turn(0), -1);
    }

    // ---- bargains

    private static void bargain(String what, int worthToFirst, int worthToOther, int cost, int loss, int gain) {
        for (int first = 0; first < 4; first++) {
            int other = (first + 1) % 4;
            BackYear x = Check.of(4, "pA");
            x.worth(0, first, worthToFirst);
            x.worth(0, other, worthToOther);
            x.set(0, 0, cost);
            due(what + ": loss", x.bargain(0, first, other, 0), loss);
            due(what + ": gain", x.bargain(0, first, other, 1), gain);
            due("nothing is righted", x.count(5), 0);
        }
    }

    private static void bargains() {
        says("Promise 21", "A BARGAIN of the first with the other one: LOSS, 0 at least (0), GAIN (1).");
        bargain("between loss and gain", -7, 3, 0, 3, 7);
        says("Terms", BARGAIN);
        bargain("gain is loss", -9, 9, 0, 9, 9);
        bargain("gain is 1 less", -8, 9, 0, NONE, NONE);
        bargain("gain is 1 more", -9, 8, 0, 8, 9);
        bargain("loss 0", -1, 0, 0, 0, 1);
        bargain("loss -1 is 0", -2, -1, 0, 0, 2);
        bargain("loss -9 is 0", -2, -9, 0, 0, 2);
        bargain("loss 1, gain 1", -1, 1, 0, 1, 1);
        bargain("gain 0, loss 0", 0, 0, 0, NONE, NONE);
        bargain("gain 0, loss below 0", 0, -1, 0, NONE, NONE);
        bargain("gain below 0, loss less", 1, -9, 0, NONE, NONE);
        bargain("the other bears the cost, gain is loss", -9, 1, 8, 9, 9);
        bargain("the other bears the cost, gain is 1 less", -9, 1, 9, NONE, NONE);
        bargain("the first bears the cost, gain 0", -9, 0, 9, NONE, NONE);
        bargain("the first bears the cost, gain 1", -9, 0, 8, 0, 1);
    }

    private static void asAllIsNow() {
        says("Terms", "A BARGAIN over a DEED that STANDS as all is now: by its being RIGHTED, too (whatever THE DAY), the "
            + "first's VALUE is more by so much (GAIN), the other one's less by so much (LOSS).");
        BackYear x = Check.of(2, "pK,pK,sKa,pLb,pA");
        Check.worths(x, 0, -5, 2);
        Check.worths(x, 2, 1, 0);
        Check.worths(x, 3, 0, 1);
        Check.costs(x, 0, 0, 0, 0, 0);
        for (int day = 11; day >= -1; day--) {
            due("on day " + day, x.bargain(0, 0, 1, 0), 2);
            due("on day " + day + ", spite comes to stand", x.bargain(0, 0, 1, 1), 6);
            x.back();
        }
        x.year();
        x.back();
        x.right(1);
        due("one of the day is righted", x.bargain(0, 0, 1, 1), 6);
        due("one of the day is righted, loss", x.bargain(0, 0, 1, 0), 2);
        due("with what fell with that", x.value(1), 2);
        says("Promise 21", "NOT: the DEED does not STAND; NONE: there is none.");
        due("the righted one itself", x.bargain(1, 0, 1, 0), NOT);
        due("one that fell with it", x.bargain(3, 0, 1, 0), NOT);
        due("one that does not stand anyhow", x.bargain(2, 0, 1, 0), NOT);
        due("one that stands, but there is none", x.bargain(4, 0, 1, 0), NONE);
        x.year();
        due("in a new year it stands", x.bargain(3, 0, 1, 0), NONE);
    }

    private static void bargainRefused() {
        says("Promise 21", "BAD: also one alike; NOT: the DEED does not STAND; NONE: there is none.");
        for (int people = 1; people <= 4; people++) {
            for (String deeds : new String[] {"pA", TWELVE}) {
                BackYear x = Check.of(people, deeds);
                int last = x.count(1) - 1;
                int end = people - 1;
                CHECK.beyond("deed", deed -> x.bargain(deed, 0, end, 0), BAD, 0, last);
                CHECK.beyond("first", first -> x.bargain(last, first, 0, 0), BAD, 0, end);
                CHECK.beyond("other", other -> x.bargain(last, 0, other, 1), BAD, 0, end);
                CHECK.beyond("what", what -> x.bargain(last, 0, end, what), BAD, 0, 1);
                for (int p = 0; p < people; p++) {
                    due("one alike: " + p, x.bargain(0, p, p, 0), BAD);
                    due("one alike: " + p, x.bargain(last, p, p, 1), BAD);
                }
                due("first and last", x.bargain(last, 0, end, 0), people == 1 ? BAD : NONE);
            }
        }
        says("Terms", "Answers below 0, of several the first that a call names");
        BackYear x = Check.of(2, "pA,sAa");
        due("does not stand, and would be none", x.bargain(1, 0, 1, 0), NOT);
        due("what 2, and does not stand", x.bargain(1, 0, 1, 2), BAD);
        due("what -1, and does not stand", x.bargain(1, 0, 1, -1), BAD);
        due("one alike, and does not stand", x.bargain(1, 1, 1, 0), BAD);
        due("first 2, and does not stand", x.bargain(1, 2, 1, 0), BAD);
        due("other 2, and does not stand", x.bargain(1, 0, 2, 0), BAD);
        due("other -1, and there is none", x.bargain(0, 0, -1, 0), BAD);
    }

    // ---- bills

    private static void dues(String what, BackYear x, int payments, int... want) {
        int sum = 0;
        for (int p = 0; p < want.length; p++) {
            due(what + ": due of " + p, x.due(p), want[p]);
            sum += x.due(p);
        }
        due(what + ": all dues come to 0", sum, 0);
        due(what + ": payments", x.payments(), payments);
    }

    /** One deed is righted. */
    private static BackYear bill(int cost, int... worths) {
        BackYear x = Check.of(worths.length, "pL");
        Check.worths(x, 0, worths);
        x.set(0, 0, cost);
        x.right(0);
        return x;
    }

    private static void bills() {
        says("Terms", BILLS);
        dues("-1 is below 0", bill(9, 1, -1), 1, -9, 9);
        dues("0 is not", bill(9, 1, 0), 0, 0, 0);
        dues("to nobody", bill(9, 1, 2, 3, 4), 0, 0, 0, 0, 0);
        dues("one alone", bill(9, -9), 0, 0);
        dues("parted in three", bill(9, 9, -1, -2, -3), 3, -9, 3, 3, 3);
        dues("2 are left", bill(8, 9, -1, -2, -3), 3, -8, 4, 2, 2);
        dues("1 is left", bill(7, 9, -3, -2, -1), 3, -7, 3, 2, 2);
        dues("less than there are", bill(2, -1, -1, -1, 1), 1, 2, 0, 0, -2);
        dues("1 in two", bill(1, 0, 3, -1, -1), 1, 0, -1, 1, 0);
        dues("1 left in two", bill(9, -1, 0, -1, 9), 2, 5, 0, 4, -9);
        dues("no cost", bill(0, 9, -1, -2, -3), 0, 0, 0, 0, 0);
        dues("not to the bearer, who is harmed most", bill(9, -1, -1, -9, -1), 3, 3, 3, -9, 3);
        dues("not to the bearer, the first of those harmed alike", bill(5, -2, -2), 1, -5, 5);
        dues("to the others alone", bill(4, 0, -9, 0, -1), 1, 0, -4, 0, 4);
        dues("of those harmed nobody but the bearer", bill(9, 0, -1, 0, 0), 0, 0, 0, 0, 0);
    }

    private static void asAllIsDue() {
        says("Terms", "BILLS, as all is now: who BEARS the COST of a RIGHTED DEED");
        BackYear x = Check.of(2, "pL,pA");
        Check.worths(x, 0, 5, -5);
        Check.worths(x, 1, -5, 5);
        x.set(0, 0, 9);
        x.set(1, 0, 7);
        dues("nothing is righted", x, 0, 0, 0);
        x.right(0);
        dues("one is", x, 1, -9, 9);
        Check.backTo(x, 0);
        x.right(1);
        says("Terms", "DUE of one: what others owe that one less what that one owes.");
        dues("both are", x, 1, -2, 2);
        x.set(1, 0, 9);
        dues("alike", x, 0, 0, 0);
        x.set(0, 0, 3);
        x.people(1);
        dues("one alone", x, 0, 0);
        x.people(3);
        x.worth(0, 2, -1);
        dues("one more, though told behind", x, 2, -2 + 9 - 1 - 0, 2 - 9, 1);
        x.year();
        dues("a new year", x, 0, 0, 0, 0);
        BackYear y = Check.of(4, TWELVE);
        for (int d = 0; d < 12; d++) {
            Check.worths(y, d, -1, 0, 0, 1);
            y.set(d, 0, 9);
        }
        Check.walk(y, 4095);
        dues("all of twelve", y, 1, 108, 0, 0, -108);
    }

    private static void dueRefused() {
        says("Promise 22", "DUE of one. BAD less 100000.");
        for (int people = 1; people <= 4; people++) {
            BackYear x = Check.of(people, "pL");
            CHECK.beyond("person of " + people, person -> x.due(person), BAD_LESS, 0, people - 1);
            x.worth(0, people - 1, -1);
            x.right(0);
            CHECK.beyond("person of " + people, person -> x.due(person), BAD_LESS, 0, people - 1);
            due("the last", x.due(people - 1), 0);
        }
        due("a due of -1, though that is how BAD is told", bill(1, 1, -1).due(0), -1);
    }

    /** Each deed is worth 1 to who pays and -1 to who is paid: three in a row, payer, payee, how much. */
    private static BackYear owed(int people, int... bills) {
        BackYear x = new BackYear();
        x.people(people);
        for (int b = 0; b < bills.length / 3; b++) {
            x.deed(PLAIN, b, 0);
            x.worth(b, bills[3 * b], 1);
            x.worth(b, bills[3 * b + 1], -1);
            x.set(b, 0, bills[3 * b + 2]);
        }
        Check.walk(x, (1 << bills.length / 3) - 1);
        return x;
    }

    private static void payments() {
        says("Terms", "PAYMENTS: the fewest by which all DUES are paid off: those whose DUE is not 0, less the most sets "
            + "into which they can be parted so that DUES of each come to 0.");
        dues("no due", owed(4), 0, 0, 0, 0, 0);
        dues("no due of one alone", owed(1), 0, 0);
        says("Promise 23", "PAYMENTS.");
        dues("one set of two", owed(4, 0, 3, 1), 1, -1, 0, 0, 1);
        dues("one set of three", owed(4, 0, 1, 1, 0, 3, 1), 2, -2, 1, 0, 1);
        dues("one set of three, round", owed(3, 0, 1, 5, 1, 2, 3), 2, -5, 2, 3);
        dues("round, to nothing", owed(3, 0, 1, 5, 1, 2, 5, 2, 0, 5), 0, 0, 0, 0);
        dues("two sets, 0 with 1", owed(4, 0, 1, 1, 2, 3, 2), 2, -1, 1, -2, 2);
        dues("two sets, 0 with 2", owed(4, 0, 2, 1, 1, 3, 2), 2, -1, -2, 1, 2);
        dues("two sets, 0 with 3", owed(4, 0, 3, 1, 1, 2, 2), 2, -1, -2, 2, 1);
        dues("two sets of alike", owed(4, 0, 1, 1, 2, 3, 1), 2, -1, 1, -1, 1);
        dues("two sets, though all four have bills", owed(4, 0, 1, 2, 2, 1, 1, 2, 3, 1, 0, 3, 1), 2, -3, 3, -2, 2);
        dues("one set of four", owed(4, 0, 1, 1, 0, 2, 1, 0, 3, 1), 3, -3, 1, 1, 1);
        dues("one set of four, two pay", owed(4, 0, 1, 3, 2, 1, 1, 2, 3, 1), 3, -3, 4, -2, 1);
    }

    public static void main(String[] args) {
        whatAWalkIs();
        bestOfK();
        likeOnes();
        fair();
        bestRefused();
        wanted();
        likeWanted();
        wantedRefused();
        whoChooses();
        likeChoices();
        knowing();
        turns();
        turnRefused();
        bargains();
        asAllIsNow();
        bargainRefused();
        bills();
        asAllIsDue();
        dueRefused();
        payments();
        CHECK.end();
    }
}

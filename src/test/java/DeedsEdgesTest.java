/** Promises 1 to 11 at their edges, one sentence of the document after the other. */
public final class DeedsEdgesTest {
    private static final Check CHECK = new Check("DeedsEdgesTest");
    private static final int BAD = BackYear.BAD, FULL = BackYear.FULL, BAD_LESS = -100001;
    private static final int MIN = Integer.MIN_VALUE, MAX = Integer.MAX_VALUE;
    private static final String KINDS = "pash";

    private DeedsEdgesTest() {
    }

    private static void due(String call, long got, long want) {
        CHECK.due(call, got, want);
    }

    private static void says(String where, String words) {
        CHECK.says(where, words);
    }

    /** That many deeds of day 0, in need of nothing. */
    private static BackYear deeds(int many) {
        BackYear x = new BackYear();
        for (int d = 0; d < many; d++) {
            x.deed(0, 0, 0);
        }
        return x;
    }

    // ---- a new object

    private static void aNewObject() {
        BackYear x = new BackYear();
        says("Promise 1", "Two people, no deed.");
        due("people", x.count(0), 2);
        due("person 1 is there", x.value(1), 0);
        due("person 2 is not", x.value(2), BAD_LESS);
        due("deeds", x.count(1), 0);
        due("deed 0 is not there", x.told(0, 0), BAD);
        due("the first deed is 0", x.deed(0, 0, 0), 0);
        says("Terms", "PEOPLE are 0 .. 3 (2 of them at first, 1 .. 4).");
        due("of them at first", new BackYear().people(3), 2);
        says("Terms", "THE DAY is 11 at first.");
        due("the day and 1", new BackYear().count(2), 12);
        due("the first day gone back to", new BackYear().back(), 10);
        says("Terms", "(a set of DEEDS; none at first)");
        due("last year", new BackYear().last(0), 0);
        says("Promise 11", "3 YEARS so far");
        due("none at first", new BackYear().count(3), 0);
        says("Promise 29", "NONE: there is none.");
        due("restore() at first", new BackYear().restore(), BackYear.NONE);
        says("Terms", "sheets 0 .. 3: nothing (at first)");
        for (int sheet = 0; sheet < 4; sheet++) {
            due("drop(" + sheet + ")", new BackYear().drop(sheet), BackYear.NULL);
        }
        says("Promise 9", "One letter more behind THE TAPE: how many it has.");
        due("the first letter", new BackYear().type('p'), 1);
    }

    /** What is asked of an object on which nothing has been told. */
    private static void nothingYet() {
        says("Promise 1", "Two people, no deed.");
        BackYear x = new BackYear();
        for (int what = 0; what <= 6; what++) {
            due("told(0, " + what + ")", x.told(0, what), BAD);
        }
        due("set(0, 0, 0)", x.set(0, 0, 0), BAD);
        due("worth(0, 0, 0)", x.worth(0, 0, 0), BAD_LESS);
        due("worthOf(0, 0)", x.worthOf(0, 0), BAD_LESS);
        due("last(0)", x.last(0), 0);
        due("last(1)", x.last(1), BAD);
        due("text()", x.text(), -20);
        due("right(0)", x.right(0), BAD);
        due("bears(0)", x.bears(0), BAD);
        due("value(-1)", x.value(-1), 0);
        due("best(4, 0, 0)", x.best(4, 0, 0), 0);
        due("best(4, 1, 1)", x.best(4, 1, 1), 0);
        due("wanted(0, 0)", x.wanted(0, 0), 0);
        due("wanted(1, 0)", x.wanted(1, 0), BAD);
        due("self()", x.self(), 0);
        due("turn(1)", x.turn(1), 0);
        due("bargain(0, 0, 1, 0)", x.bargain(0, 0, 1, 0), BAD);
        due("due(1)", x.due(1), 0);
        due("payments()", x.payments(), 0);
        due("forgotten(0, 0, 0)", x.forgotten(0, 0, 0), 1);
        due("forgotten(11, 0, 1)", x.forgotten(11, 0, 1), 0);
        due("upper()", x.upper(), 0);
        due("lower()", x.lower(), 1);
        due("comes(4, 0)", x.comes(4, 0), 1);
        due("comes(0, 1)", x.comes(0, 1), 1);
        due("judged(0, 0, 0)", x.judged(0, 0, 0), BackYear.NULL);
        due("net(0, 0, 0, 0, 1, 0)", x.net(0, 0, 0, 0, 1, 0), BAD);
        due("film(0, 0, 0)", x.film(0, 0, 0), BackYear.NULL);
        due("item(0, 0, 0, 0)", x.item(0, 0, 0, 0), BackYear.NULL);
        due("copy(0, 0, 0, 0, 0)", x.copy(0, 0, 0, 0, 0), BackYear.NULL);
        due("year()", x.year(), 0);
    }

    // ---- people

    private static void people() {
        says("Promise 2", "How many PEOPLE there are: how many there were. BAD.");
        BackYear x = new BackYear();
        due("people(1), the least", x.people(1), 2);
        due("people(4), the most", x.people(4), 1);
        due("people(4), as many as there are", x.people(4), 4);
        CHECK.beyond("people", n -> x.people(n), BAD, 1, 4);
        due("refused, as many as before", x.count(0), 4);
        due("people(2)", x.people(2), 4);
        due("people(3)", x.people(3), 2);
        due("people(1)", x.people(1), 3);
    }

    // ---- a deed

    private static void asTheyCome() {
        says("Terms", "DEEDS 0 .. 11, as they come");
        BackYear x = new BackYear();
        for (int d = 0; d < 12; d++) {
            due("deed " + d, x.deed(d % 4, d, 0), d);
            due("deeds then", x.count(1), d + 1);
        }
        says("Promise 3", "BAD; FULL: 12.");
        due("one more", x.deed(0, 0, 0), FULL);
        due("one more, in need of all", x.deed(3, 11, 4095), FULL);
        due("still twelve", x.count(1), 12);
        due("deed 11 is as it was", x.told(11, 1), 11);
        says("Terms", "Answers below 0, of several the first that a call names");
        due("kind 4, and full", x.deed(4, 0, 0), BAD);
        due("kind -1, and full", x.deed(-1, 0, 0), BAD);
        due("day 12, and full", x.deed(0, 12, 0), BAD);
        due("day -1, and full", x.deed(0, -1, 0), BAD);
        due("a later need, and full", x.deed(0, 10, 1 << 11), BAD);
        due("a need that there is not, and full", x.deed(0, 11, 1 << 12), BAD);
    }

    private static void kindsAndDays() {
        says("Promise 3", "A DEED: its number. BAD; FULL: 12.");
        BackYear x = new BackYear();
        due("kind 0, the first", x.deed(0, 0, 0), 0);
        due("kind 3, the last", x.deed(3, 0, 0), 1);
        CHECK.beyond("kind", kind -> x.deed(kind, 0, 0), BAD, 0, 3);
        due("no deed came", x.count(1), 2);
        says("Terms", "have a DAY (0 .. 11)");
        due("day 0, the first", x.deed(0, 0, 0), 2);
        due("day 11, the last", x.deed(0, 11, 0), 3);
        CHECK.beyond("day", day -> x.deed(0, day, 0), BAD, 0, 11);
        due("no deed came", x.count(1), 4);
        due("day of deed 2", x.told(2, 1), 0);
        due("day of deed 3", x.told(3, 1), 11);
    }

    private static void needs() {
        says("Terms", "NEEDS (a set of DEEDS of lesser numbers, none of a later DAY)");
        BackYear x = new BackYear();
        CHECK.beyondSets("the first deed's needs", needs -> x.deed(0, 11, needs), BAD, 0);
        due("none", x.deed(0, 5, 0), 0);
        CHECK.beyondSets("the second deed's needs", needs -> x.deed(0, 11, needs), BAD, 1);
        due("of the next day", x.deed(0, 4, 1), BAD);
        due("of the day", x.deed(0, 5, 1), 1);
        due("of a day ahead", x.deed(0, 6, 1), 2);
        due("one of the next day with others", x.deed(0, 5, 7), BAD);
        due("all but that one", x.deed(0, 5, 3), 3);
        due("refused, none came", x.count(1), 4);
        for (int d = 2; d < 12; d++) {
            BackYear y = deeds(d);
            int all = (1 << d) - 1;
            CHECK.beyondSets("needs of deed " + d, needs -> y.deed(0, 11, needs), BAD, d);
            due("all of lesser numbers", y.deed(0, 11, all), d);
            due("they are told", y.told(d, 2), all);
        }
        CHECK.beyondSets("needs, as it is full", needs -> deeds(12).deed(0, 11, needs), BAD, 12);
    }

    private static void told() {
        says("Promise 4", "Of a DEED: 0 KIND, 1 DAY, 2 NEEDS, 3 COST, 4 ODDS, 5 whether it STANDS, 6 whether it is "
            + "RIGHTED (1, 0). BAD.");
        BackYear x = new BackYear();
        x.deed(1, 0, 0);
        x.deed(2, 11, 1);
        int[][] want = {{1, 0, 0, 1, 4, 1, 0}, {2, 11, 1, 1, 4, 0, 0}};
        for (int d = 0; d < 2; d++) {
            for (int what = 0; what <= 6; what++) {
                due("told(" + d + ", " + what + ")", x.told(d, what), want[d][what]);
            }
            int deed = d;
            CHECK.beyond("what", what -> x.told(deed, what), BAD, 0, 6);
        }
        for (int w = 0; w <= 6; w++) {
            int what = w;
            CHECK.beyond("deed", deed -> x.told(deed, what), BAD, 0, 1);
        }
        due("neither", x.told(2, 7), BAD);
        BackYear y = deeds(12);
        y.deed(0, 0, 0);
        CHECK.beyond("deed of twelve", deed -> y.told(deed, 3), BAD, 0, 11);
        due("the last of twelve", y.told(11, 3), 1);
        y.last(0);
        Check.backTo(y, 0);
        y.right(11);
        due("the last of twelve is righted", y.told(11, 6), 1);
        due("the last of twelve stands no more", y.told(11, 5), 0);
        due("the one ahead of it is not", y.told(10, 6), 0);
        due("the one ahead of it stands", y.told(10, 5), 1);
    }

    private static void costAndOdds() {
        says("Terms", "a COST (0 .. 9; 1 at first)");
        BackYear x = deeds(12);
        due("at first", x.told(11, 3), 1);
        due("9, the most", x.set(11, 0, 9), 1);
        CHECK.beyond("cost", v -> x.set(11, 0, v), BAD, 0, 9);
        due("refused, as it was", x.told(11, 3), 9);
        due("0, the least", x.set(11, 0, 0), 9);
        due("told", x.told(11, 3), 0);
        says("Terms", "ODDS (0 .. 4; 4 at first)");
        due("at first", x.told(11, 4), 4);
        due("0, the least", x.set(11, 1, 0), 4);
        CHECK.beyond("odds", v -> x.set(11, 1, v), BAD, 0, 4);
        due("refused, as they were", x.told(11, 4), 0);
        due("4, the most", x.set(11, 1, 4), 0);
        due("told", x.told(11, 4), 4);
        says("Promise 5", "COST (0), ODDS (1) of a DEED becomes v: what it was. BAD.");
        due("5 is a cost", x.set(0, 0, 5), 1);
        due("5 are no odds", x.set(0, 1, 5), BAD);
        CHECK.beyond("what", what -> x.set(0, what, 1), BAD, 0, 1);
        CHECK.beyond("deed, its cost", deed -> x.set(deed, 0, 3), BAD, 0, 11);
        CHECK.beyond("deed, its odds", deed -> x.set(deed, 1, 3), BAD, 0, 11);
        for (int d = 0; d < 12; d++) {
            due("refused: cost of " + d, x.told(d, 3), d == 0 ? 5 : d == 11 ? 0 : 1);
            due("refused: odds of " + d, x.told(d, 4), 4);
        }
        BackYear y = deeds(1);
        CHECK.beyond("deed of one", deed -> y.set(deed, 0, 3), BAD, 0, 0);
    }

    private static void worth() {
        says("Terms", "a WORTH to each of PEOPLE (-9 .. 9; 0 at first)");
        for (int d = 0; d < 12; d += 11) {
            for (int p = 0; p < 4; p++) {
                BackYear x = deeds(12);
                int deed = d;
                int person = p;
                due("at first", x.worthOf(d, p), 0);
                due("9, the most", x.worth(d, p, 9), 0);
                CHECK.beyond("worth", v -> x.worth(deed, person, v), BAD_LESS, -9, 9);
                due("refused, as it was", x.worthOf(d, p), 9);
                due("-9, the least", x.worth(d, p, -9), 9);
                due("told", x.worthOf(d, p), -9);
                due("-1, though that is how BAD is told", x.worth(d, p, -1), -9);
                due("told, though that is how BAD is told", x.worthOf(d, p), -1);
            }
        }
        BackYear x = deeds(12);
        for (int p = 0; p < 4; p++) {
            x.worth(0, p, p);
            x.worth(11, p, -p);
        }
        says("Promise 6", "WORTH of a DEED to one (0 .. 3) becomes v: what it was. BAD less 100000.");
        CHECK.beyond("person", person -> x.worth(0, person, 5), BAD_LESS, 0, 3);
        CHECK.beyond("deed", deed -> x.worth(deed, 0, 5), BAD_LESS, 0, 11);
        says("Promise 7", "WORTH. BAD less 100000.");
        CHECK.beyond("person", person -> x.worthOf(0, person), BAD_LESS, 0, 3);
        CHECK.beyond("deed", deed -> x.worthOf(deed, 0), BAD_LESS, 0, 11);
        for (int d = 0; d < 12; d++) {
            for (int p = 0; p < 4; p++) {
                due("refused, worth of " + d + " to " + p + " as it was", x.worthOf(d, p), d == 0 ? p : d == 11 ? -p : 0);
            }
        }
        BackYear y = deeds(1);
        CHECK.beyond("deed of one, told", deed -> y.worth(deed, 0, 5), BAD_LESS, 0, 0);
        CHECK.beyond("deed of one, asked", deed -> y.worthOf(deed, 0), BAD_LESS, 0, 0);
    }

    private static void last() {
        says("Promise 8", "LAST YEAR becomes a set: what it was. BAD: bits of DEEDS that there are not.");
        for (int many : new int[] {0, 1, 2, 11, 12}) {
            BackYear x = deeds(many);
            int all = (1 << many) - 1;
            due("all of " + many, x.last(all), 0);
            CHECK.beyondSets("of " + many, set -> x.last(set), BAD, many);
            due("refused, as it was", x.count(6), all);
            due("none", x.last(0), all);
            due("none told", x.count(6), 0);
        }
        BackYear x = deeds(1);
        due("the next one is not there yet", x.last(2), BAD);
        x.deed(0, 0, 0);
        due("it is there", x.last(2), 0);
    }

    // ---- the tape

    private static void type() {
        says("Promise 9", "BAD: not 32 .. 126; FULL: 80.");
        BackYear x = new BackYear();
        due("32, the first", x.type(32), 1);
        due("126, the last", x.type(126), 2);
        CHECK.beyond("letter", letter -> x.type(letter), BAD, 32, 126);
        for (int i = 3; i < 80; i++) {
            due("letter " + i, x.type(32 + i), i);
        }
        CHECK.beyond("letter, one left", letter -> x.type(letter), BAD, 32, 126);
        due("letter 80, the last", x.type('x'), 80);
        for (int letter = 32; letter <= 126; letter++) {
            due("one more", x.type(letter), FULL);
        }
        says("Terms", "Answers below 0, of several the first that a call names");
        CHECK.beyond("no letter, and full", letter -> x.type(letter), BAD, 32, 126);
    }

    /** Eighty letters: so many blanks, then these. */
    private static BackYear tapeEndingIn(String letters) {
        BackYear x = new BackYear();
        for (int i = letters.length(); i < 80; i++) {
            x.type(' ');
        }
        for (int i = 0; i < letters.length(); i++) {
            x.type(letters.charAt(i));
        }
        due("it is full", x.type('p'), FULL);
        return x;
    }

    private static void fullTape() {
        says("Promise 9", "One letter more behind THE TAPE: how many it has. BAD: not 32 .. 126; FULL: 80.");
        due("the last two letters count", tapeEndingIn("pA").text(), 1);
        due("the last letter is the fault", tapeEndingIn("x").text(), -20 - 79);
        due("the last letter is the fault, behind a deed", tapeEndingIn("pAB").text(), -20 - 79);
        says("Terms", "(the end: how many there are)");
        due("the end of all blanks", tapeEndingIn("").text(), -100);
        due("the end behind a kind", tapeEndingIn("p").text(), -100);
        due("the end behind a ,", tapeEndingIn("pA,").text(), -100);
        String needs = "pA,pA,pA,pA,pA,pA,pA,pA,pAabcdefg,pAabcdefghi,pAabcdefghij,pAabcdefghijk";
        says("Terms", "A YEAR is a TEXT: 1 to 12 DEEDS");
        BackYear x = tapeEndingIn(needs);
        due("as many needs as there is room for", x.text(), 12);
        due("all ahead are needs of the last", x.told(11, 2), 2047);
        says("Promise 10", "THE TAPE, which is empty then (by a FAULT, too)");
        due("behind a full one", x.type('p'), 1);
        BackYear y = tapeEndingIn("x");
        y.text();
        due("behind a full one with a fault", y.type('p'), 1);
        due("the end of that one letter", y.text(), -21);
        due("the end of none", y.text(), -20);
    }

    // ---- years as texts

    private static void reads(String letters, int want) {
        due("\"" + letters + "\"", Check.text(new BackYear(), letters), want);
    }

    /** Of all letters behind these, each that can stand there leads to so much, all others are the fault. */
    private static void letters(String ahead, String can, int then) {
        for (int letter = 33; letter <= 126; letter++) {
            boolean stands = can.indexOf(letter) >= 0;
            reads(ahead + (char) letter, stands ? then : -20 - ahead.length());
            reads(ahead + " " + (char) letter, stands ? then - (then < 0 ? 1 : 0) : -21 - ahead.length());
        }
    }

    private static String times(int many, String letters) {
        StringBuilder all = new StringBuilder(letters);
        for (int i = 1; i < many; i++) {
            all.append(',').append(letters);
        }
        return all.toString();
    }

    private static void lettersThatCanStand() {
        says("Terms", "p a s h (KINDS in this order), A .. L (DAY), any of a .. l (NEEDS: DEEDS told ahead, of no later "
            + "DAY, none twice)");
        letters("", KINDS, -21);
        letters("p", "ABCDEFGHIJKL", 1);
        letters("h", "ABCDEFGHIJKL", 1);
        letters("pL", ",", -23);
        letters("pL,", KINDS, -24);
        letters("pA,s", "ABCDEFGHIJKL", 2);
        for (int letter = 33; letter <= 126; letter++) {
            int want = letter == ',' ? -26 : letter == 'a' ? 2 : -25;
            reads("pC,pC" + (char) letter, want);
            reads("pC,pCa" + (char) letter, letter == ',' ? -27 : -26);
        }
    }

    private static void needsThatCanStand() {
        says("Terms", "any of a .. l (NEEDS: DEEDS told ahead, of no later DAY, none twice)");
        String ahead = "pC,pD,pE";
        String[] days = {"B", "C", "D", "E"};
        for (int day = 0; day < days.length; day++) {
            for (int letter = 'a'; letter <= 'm'; letter++) {
                reads(ahead + ",p" + days[day] + (char) letter, letter < 'a' + day ? 4 : -31);
            }
            reads(ahead + ",p" + days[day] + "`", -31);
        }
        for (int letter = 'a'; letter <= 'm'; letter++) {
            String eleven = times(11, "pL");
            reads(eleven + ",pL" + (char) letter, letter < 'l' ? 12 : -55);
            reads(eleven + ",pL" + (char) letter + (char) letter, letter < 'l' ? -56 : -55);
        }
        reads("pA,pA,pAab", 3);
        reads("pA,pA,pAba", 3);
        reads("pA,pA,pAbab", -30);
        reads("pA,pA,pAb b", -30);
        reads("pA,pAa,pAa", 3);
    }

    private static void howManyDeeds() {
        says("Terms", "A YEAR is a TEXT: 1 to 12 DEEDS with , between");
        reads("", -20);
        reads("pA", 1);
        for (int many = 2; many <= 12; many++) {
            reads(times(many, "pA"), many);
        }
        for (int many = 1; many < 12; many++) {
            reads(times(many, "pA") + ",", -20 - 3 * many);
            reads(times(many, "pA") + ", ", -21 - 3 * many);
        }
        reads(times(12, "pA") + ",", -55);
        reads(times(12, "pA") + ", ", -55);
        reads(times(12, "pA") + ",pA", -55);
        reads(times(12, "pA") + " ,pA", -56);
        reads(",pA", -20);
        reads("pA,,pA", -23);
        reads("pApA", -22);
    }

    private static void theEnd() {
        says("Terms", "-20 less the place on THE TAPE (blanks counted) of the first letter (behind blanks) that can't "
            + "stand there (the end: how many there are); blanks tell nothing.");
        reads("", -20);
        reads(" ", -21);
        reads("p", -21);
        reads("p ", -22);
        reads(" p", -22);
        reads("pA,", -23);
        reads("pA,  ", -25);
        reads("pA,p", -24);
        reads("  x", -22);
        reads("x  ", -20);
        reads("xy", -20);
        reads("p x", -22);
        reads("pA x", -23);
        reads("pA , x", -25);
        reads("pA,p B   b", -29);
        reads(" p A ", 1);
        reads("p A , s  B  a ", 2);
        reads("pA,pA,pA a b", 3);
    }

    private static void kindsInOrder() {
        says("Terms", "p a s h (KINDS in this order)");
        BackYear x = Check.of(2, "pA,aB,sK,hL");
        for (int d = 0; d < 4; d++) {
            due("kind of " + KINDS.charAt(d), x.told(d, 0), d);
        }
        says("Terms", "A .. L (DAY)");
        int[] days = {0, 1, 10, 11};
        for (int d = 0; d < 4; d++) {
            due("day of deed " + d, x.told(d, 1), days[d]);
        }
        BackYear y = Check.of(2, times(11, "pL") + ",pLakb");
        due("needs of the last of twelve", y.told(11, 2), 1 | 2 | 1 << 10);
        due("needs of the one ahead", y.told(10, 2), 0);
    }

    /** Twelve deeds, nothing of them as at first. */
    private static BackYear allTold() {
        BackYear x = deeds(12);
        x.people(3);
        for (int d = 0; d < 12; d++) {
            Check.worths(x, d, 1, -2, 3, -4);
            x.set(d, 0, 9);
            x.set(d, 1, 0);
        }
        x.year();
        x.deed(0, 0, 0);
        Check.backTo(x, 0);
        x.right(11);
        return x;
    }

    private static void inPlaceOfAll() {
        says("Terms", "in place of all DEEDS (COSTS, WORTHS, ODDS as at first, LAST YEAR none, nothing RIGHTED, THE DAY "
            + "11; PEOPLE, YEARS so far stay)");
        BackYear x = allTold();
        x.back();
        // Neither a year that was no text nor years to come may leave anything behind.
        x.last(4095);
        due("a fault ahead", Check.text(x, "hL,hL,hLab,"), -31);
        due("years to come ahead", x.comes(4, 0), 1);
        due("one deed", Check.text(x, "pL"), 1);
        int[] want = {3, 1, 12, 1, 1, 0, 0};
        for (int what = 0; what <= 6; what++) {
            due("count(" + what + ")", x.count(what), want[what]);
        }
        due("deed 1 is there no more", x.told(1, 0), BAD);
        for (int d = 1; d < 12; d++) {
            due("the next", x.deed(0, 11, 0), d);
        }
        for (int d = 0; d < 12; d++) {
            due("cost of " + d, x.told(d, 3), 1);
            due("odds of " + d, x.told(d, 4), 4);
            for (int p = 0; p < 4; p++) {
                due("worth of " + d + " to " + p, x.worthOf(d, p), 0);
            }
        }
        due("deed 0 can be righted", x.right(0), 1);
        BackYear y = allTold();
        due("twelve", Check.text(y, times(12, "hB")), 12);
        due("cost of the last", y.told(11, 3), 1);
        due("odds of the last", y.told(11, 4), 4);
        due("worth of the last to the last", y.worthOf(11, 3), 0);
        due("nothing righted", y.count(5), 0);
    }

    private static void byAFault() {
        says("Promise 10", "A FAULT (all else stays).");
        for (String letters : new String[] {"", "pA,pB,x", "pA,", "x", times(12, "pL") + ","}) {
            BackYear x = allTold();
            int[] want = new int[7];
            for (int what = 0; what <= 6; what++) {
                want[what] = x.count(what);
            }
            due("a fault in \"" + letters + "\"", Check.text(x, letters) <= -20 ? 1 : 0, 1);
            for (int what = 0; what <= 6; what++) {
                due("count(" + what + ")", x.count(what), want[what]);
            }
            for (int d = 0; d < 12; d++) {
                due("day of " + d, x.told(d, 1), 0);
                due("cost of " + d, x.told(d, 3), 9);
                due("odds of " + d, x.told(d, 4), 0);
                due("worth of " + d, x.worthOf(d, 3), -4);
            }
            due("the tape is empty", x.type('p'), 1);
        }
        says("Promise 10", "THE TAPE, which is empty then (by a FAULT, too), is a YEAR: how many DEEDS.");
        BackYear x = new BackYear();
        due("a year", Check.text(x, "pA,pB"), 2);
        due("nothing is left of it", x.text(), -20);
        due("the year stays", x.count(1), 2);
        due("the next", Check.text(x, "sC"), 1);
    }

    // ---- how many

    private static void count() {
        says("Promise 11", "0 PEOPLE, 1 DEEDS, 2 THE DAY and 1, 3 YEARS so far, 4 DEEDS that STAND (a set), 5 RIGHTED "
            + "ones (a set), 6 LAST YEAR (a set). BAD.");
        BackYear x = deeds(12);
        CHECK.beyond("what", what -> x.count(what), BAD, 0, 6);
        x.people(4);
        x.last(4095);
        int[] want = {4, 12, 12, 0, 4095, 0, 4095};
        for (int what = 0; what <= 6; what++) {
            due("full: count(" + what + ")", x.count(what), want[what]);
        }
        for (int day = 10; day >= -1; day--) {
            x.back();
            due("the day and 1", x.count(2), day + 1);
        }
        x.back();
        due("the day and 1, over", x.count(2), 0);
        x.year();
        due("a year more", x.count(3), 1);
        CHECK.beyond("what", what -> x.count(what), BAD, 0, 6);
        due("asked, nothing changed", x.count(1), 12);
        due("least and greatest", x.count(MIN) + x.count(MAX), 2 * BAD);
    }

    public static void main(String[] args) {
        aNewObject();
        nothingYet();
        people();
        asTheyCome();
        kindsAndDays();
        needs();
        told();
        costAndOdds();
        worth();
        last();
        type();
        fullTape();
        lettersThatCanStand();
        needsThatCanStand();
        howManyDeeds();
        theEnd();
        kindsInOrder();
        inPlaceOfAll();
        byAFault();
        count();
        CHECK.end();
    }
}

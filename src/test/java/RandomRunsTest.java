/** Long runs of chosen calls, each answer compared with the model's. The choice is always the same. */
public final class RandomRunsTest {
    /** An object is good for so many calls; no choice makes more than MOST_AT_ONCE. */
    private static final int RUNS = 250, CALLS = 512, MOST_AT_ONCE = 90;
    private static final String[] NAMES = {"people", "deed", "told", "set", "worth", "worthOf", "last", "type",
        "text", "count", "right", "back", "year", "value", "bears", "best", "wanted", "self", "turn", "bargain",
        "due", "payments", "forgotten", "upper", "lower", "comes", "image", "restore", "judged", "net", "film",
        "sheet", "drop", "item", "copy"};
    /** How often each is called, in the order of the names. */
    private static final int[] OFTEN = {2, 12, 8, 8, 40, 4, 4, 6, 0, 8, 30, 20, 4, 8, 4, 6, 8, 2, 3, 14, 8, 4, 10, 1,
        1, 3, 2, 2, 8, 12, 4, 6, 1, 12, 6};

    private static long seed = 20261119;

    private RandomRunsTest() {
    }

    private static int upTo(int most) {
        seed = seed * 6364136223846793005L + 1442695040888963407L;
        return (int) ((seed >>> 33) % (most + 1));
    }

    /** Mostly between the two, now and then just beside or far off. */
    private static int near(int low, int high) {
        switch (upTo(60)) {
            case 0: return low - 1;
            case 1: return high + 1;
            case 2: return upTo(1) == 0 ? Integer.MIN_VALUE : Integer.MAX_VALUE;
            default: return low + upTo(high - low);
        }
    }

    private static int someOf(int set) {
        int some = 0;
        for (int one = 0; one < 12; one++) {
            some |= upTo(1) << one;
        }
        return set & some;
    }

    private static int fewOf(int set) {
        return someOf(someOf(set));
    }

    private final Check check = new Check("RandomRunsTest");
    private BackYear x;
    private Model m;
    private StringBuilder calls;
    private boolean prepared;
    private int made;
    private final int[] laneOf = new int[4];

    private void due(String call, long got, long want) {
        made++;
        calls.append(call).append(" -> ").append(want).append("; ");
        if (got != want) {
            check.due(calls.toString(), got, want);
            check.end();
        }
        check.due(call, got, want);
    }

    private int deeds() {
        return m.count(1);
    }

    private int all() {
        return (1 << deeds()) - 1;
    }

    /** Which of the deeds numbered below one are of no later day. */
    private int needable(int number, int day) {
        int set = 0;
        for (int d = 0; d < number && d < deeds(); d++) {
            set |= m.told(d, 1) <= day ? 1 << d : 0;
        }
        return set;
    }

    private int aDeed() {
        return near(0, Math.max(0, deeds() - 1));
    }

    private int aPerson() {
        return near(0, m.count(0) - 1);
    }

    private int aSet(int whole) {
        return upTo(40) == 0 ? near(0, 4095) : someOf(whole);
    }

    private int pick() {
        int all = 0;
        for (int often : OFTEN) {
            all += often;
        }
        int at = upTo(all - 1);
        int op = 0;
        while (at >= OFTEN[op]) {
            at -= OFTEN[op];
            op++;
        }
        return op;
    }

    private void call(int op) {
        String name = NAMES[op];
        switch (op) {
            case 0: { int n = near(1, 4); due(name + "(" + n + ")", x.people(n), m.people(n)); break; }
            case 1: addDeed(); break;
            case 2: { int d = aDeed(), w = near(0, 6); due2(name, d, w, x.told(d, w), m.told(d, w)); break; }
            case 3: { int d = aDeed(), w = near(0, 1), v = near(0, w == 0 ? 9 : 4);
                due3(name, d, w, v, x.set(d, w, v), m.set(d, w, v)); break; }
            case 4: { int d = aDeed(), p = near(0, 3), v = near(-9, 9);
                due3(name, d, p, v, x.worth(d, p, v), m.worth(d, p, v)); break; }
            case 5: { int d = aDeed(), p = near(0, 3); due2(name, d, p, x.worthOf(d, p), m.worthOf(d, p)); break; }
            case 6: { int s = aSet(all()); due(name + "(" + s + ")", x.last(s), m.last(s)); break; }
            case 7: {
                if (!prepared || upTo(15) == 0) {
                    aText();
                }
                break; }
            case 9: { int w = near(0, 6); due(name + "(" + w + ")", x.count(w), m.count(w)); break; }
            case 10: { int d = upTo(4) == 0 ? aDeed() : deedOfTheDay(); due(name + "(" + d + ")", x.right(d), m.right(d)); break; }
            case 11: {
                if (m.count(2) == 0 && upTo(2) != 0) {
                    due("year()", x.year(), m.year());
                }
                due(name + "()", x.back(), m.back());
                break; }
            case 12: due(name + "()", x.year(), m.year()); break;
            case 13: { int p = near(-1, m.count(0) - 1); due(name + "(" + p + ")", x.value(p), m.value(p)); break; }
            case 14: { int d = aDeed(); due(name + "(" + d + ")", x.bears(d), m.bears(d)); break; }
            default: callWalks(op);
        }
    }

    private void callWalks(int op) {
        String name = NAMES[op];
        switch (op) {
            case 15: { int k = near(0, 4), f = near(0, 1), w = near(0, 1);
                due3(name, k, f, w, x.best(k, f, w), m.best(k, f, w)); break; }
            case 16: { int must = fewOf(all()), not = fewOf(all());
                not = upTo(9) == 0 ? not : not & ~must;
                must = upTo(30) == 0 ? near(0, 4095) : must;
                not = upTo(30) == 0 ? near(0, 4095) : not;
                due2(name, must, not, x.wanted(must, not), m.wanted(must, not)); break; }
            case 17: due(name + "()", x.self(), m.self()); break;
            case 18: { int p = aPerson(); due(name + "(" + p + ")", x.turn(p), m.turn(p)); break; }
            case 19: { int d = aDeed(), f = aPerson(), o = aPerson(), w = near(0, 1);
                due(name + "(" + d + ", " + f + ", " + o + ", " + w + ")", x.bargain(d, f, o, w),
                    m.bargain(d, f, o, w)); break; }
            case 20: { int p = aPerson(); due(name + "(" + p + ")", x.due(p), m.due(p)); break; }
            case 21: due(name + "()", x.payments(), m.payments()); break;
            case 22: forgotten(); break;
            case 23: due(name + "()", x.upper(), m.upper()); break;
            case 24: due(name + "()", x.lower(), m.lower()); break;
            case 25: { int k = near(0, 3), w = near(0, 1); due2(name, k, w, x.comes(k, w), m.comes(k, w)); break; }
            case 26: due(name + "()", x.image(), m.image()); break;
            case 27: due(name + "()", x.restore(), m.restore()); break;
            default: callSheets(op);
        }
    }

    private void callSheets(int op) {
        String name = NAMES[op];
        int s = near(0, 3);
        int lane = s >= 0 && s < 4 && upTo(12) != 0 ? laneOf[s] : near(0, 3);
        switch (op) {
            case 28: judge(s, lane); break;
            case 29: net(s, lane); break;
            case 30: { int i = near(0, 12); due3(name, s, lane, i, x.film(s, lane, i), m.film(s, lane, i));
                look(s, lane); break; }
            case 31: { int l = near(0, 3), n = upTo(2) == 0 ? 16 : near(0, 16);
                int got = x.sheet(s, l, n);
                due3(name, s, l, n, got, m.sheet(s, l, n));
                if (got >= 0) {
                    laneOf[s] = l;
                }
                break; }
            case 32: due(name + "(" + s + ")", x.drop(s), m.drop(s)); break;
            case 33: { int i = near(0, 15);
                long v = upTo(3) == 0 ? (long) near(0, 1 << 30) << upTo(40) : near(-1, 4095);
                due(name + "(" + s + ", " + lane + ", " + i + ", " + v + ")", x.item(s, lane, i, v),
                    m.item(s, lane, i, v)); break; }
            case 34: { int i = near(0, 9), to = upTo(2) == 0 ? s : near(0, 3), j = near(0, 9), n = near(0, 8);
                due(name + "(" + s + ", " + i + ", " + to + ", " + j + ", " + n + ")", x.copy(s, i, to, j, n),
                    m.copy(s, i, to, j, n)); break; }
            default: throw new IllegalStateException(name);
        }
    }

    private void due2(String name, int a, int b, long got, long want) {
        due(name + "(" + a + ", " + b + ")", got, want);
    }

    private void due3(String name, int a, int b, int c, long got, long want) {
        due(name + "(" + a + ", " + b + ", " + c + ")", got, want);
    }

    private void addDeed() {
        int kind = near(0, 3), day = near(0, 11);
        int needs = fewOf(upTo(20) == 0 ? 4095 : needable(12, day));
        due3("deed", kind, day, needs, x.deed(kind, day, needs), m.deed(kind, day, needs));
    }

    /** A year as letters, often a whole one, sometimes with a letter that can't stand there. */
    private void aText() {
        StringBuilder letters = new StringBuilder();
        int deeds = upTo(20) == 0 ? 13 : 1 + upTo(10);
        int day = 0;
        for (int d = 0; d < deeds; d++) {
            letters.append(d == 0 ? "" : ",").append("pash".charAt(upTo(3)));
            day = upTo(4) == 0 ? upTo(11) : Math.min(11, day + upTo(2));
            letters.append((char) ('A' + day));
            for (int need = 0; need < d; need++) {
                if (upTo(4) == 0 && 'A' + day >= letters.charAt(placeOfDay(letters, need))) {
                    letters.append((char) ('a' + need));
                }
            }
        }
        for (int blanks = upTo(4); blanks > 0; blanks--) {
            letters.insert(upTo(letters.length()), ' ');
        }
        for (int odd = upTo(5) == 0 ? 1 : 0; odd > 0; odd--) {
            letters.insert(upTo(letters.length()), (char) near(32, 126));
        }
        if (upTo(9) == 0) {
            letters.setLength(upTo(letters.length()));
        }
        for (int i = 0; i < letters.length(); i++) {
            int letter = letters.charAt(i);
            due("type(" + letter + ")", x.type(letter), m.type(letter));
        }
        due("text()", x.text(), m.text());
    }

    private static int placeOfDay(StringBuilder letters, int deed) {
        int place = 0;
        for (int comma = 0; comma < deed; comma++) {
            place = letters.indexOf(",", place) + 1;
        }
        return place + 1;
    }

    private void forgotten() {
        int day = deeds() > 0 && upTo(1) == 0 ? m.told(upTo(deeds() - 1), 1) : near(0, 11);
        int told = upTo(2) == 0 ? aSet(all()) : m.count(4);
        for (int d = 0; d < deeds() && upTo(20) != 0; d++) {
            told &= m.told(d, 1) == day ? ~(1 << d) : ~0;
        }
        int what = near(0, 1);
        due3("forgotten", day, told, what, x.forgotten(day, told, what), m.forgotten(day, told, what));
    }

    private void item(int s, int lane, int i, long v) {
        due("item(" + s + ", " + lane + ", " + i + ", " + v + ")", x.item(s, lane, i, v), m.item(s, lane, i, v));
    }

    /** Puts what can well be righted into the row ahead of asking. */
    private void judge(int s, int lane) {
        int i = upTo(8) == 0 ? near(0, 16) : 0;
        for (int place = 0; place < 12 && upTo(30) != 0; place++) {
            int chosen = -1;
            for (int d = 0; d < deeds(); d++) {
                boolean can = upTo(9) == 0 || m.told(d, 5) == 1;
                chosen = m.told(d, 1) == 11 - place && can && upTo(1) == 0 ? d : chosen;
            }
            item(s, lane, i < 0 || i > 16 ? 0 : i + place, upTo(60) == 0 ? near(-2, 12) : chosen);
        }
        due3("judged", s, lane, i, x.judged(s, lane, i), m.judged(s, lane, i));
    }

    /** Puts years that may well have been into the row ahead of asking. */
    private void net(int s, int lane) {
        int d = aDeed(), i = upTo(12) == 0 ? near(0, 16) : 0, n = near(1, 8), w = near(0, 1);
        int needs = fewOf(all());
        for (int k = 0; k < n && k < 8; k++) {
            int year = someOf(all());
            boolean stood = upTo(6) == 0 ? upTo(1) == 0 : (needs & year & (1 << d) - 1) != 0;
            year = stood ? year | 1 << Math.floorMod(d, 12) : year & ~(1 << Math.floorMod(d, 12));
            item(s, lane, i < 0 || i > 16 ? 0 : i + k, upTo(60) == 0 ? -1 : year & (upTo(60) == 0 ? ~0 : all()));
        }
        due("net(" + d + ", " + s + ", " + lane + ", " + i + ", " + n + ", " + w + ")", x.net(d, s, lane, i, n, w),
            m.net(d, s, lane, i, n, w));
    }

    /** What a row holds, found by the one call that tells of any item: copied to the front, taken as years. */
    private void look(int s, int lane) {
        for (int i = 0; i < 16; i += 5) {
            due("net(0, " + s + ", " + lane + ", " + i + ", 1, 0)", x.net(0, s, lane, i, 1, 0),
                m.net(0, s, lane, i, 1, 0));
        }
    }

    private int deedOfTheDay() {
        int found = aDeed();
        for (int d = 0; d < deeds(); d++) {
            found = m.told(d, 1) == m.count(2) - 1 && upTo(2) != 0 ? d : found;
        }
        return found;
    }

    /** Deeds with all that can be told of them, and rows, so that hard questions are met. */
    private void prepare() {
        int people = 1 + Math.max(upTo(3), upTo(3));
        due("people(" + people + ")", x.people(people), m.people(people));
        int days = 1 + upTo(10);
        for (int d = 3 + upTo(9); d > 0; d--) {
            int kind = upTo(3), day = 11 - upTo(days), needs = fewOf(needable(12, day));
            needs = upTo(2) == 0 ? needs | someOf(needable(12, day)) : needs;
            due3("deed", kind, day, needs, x.deed(kind, day, needs), m.deed(kind, day, needs));
        }
        int most = upTo(1) == 0 ? 9 : 2;
        for (int d = 0; d < deeds(); d++) {
            for (int p = 0; p < 4; p++) {
                int v = upTo(2 * most) - most;
                due3("worth", d, p, v, x.worth(d, p, v), m.worth(d, p, v));
            }
            int cost = upTo(most), odds = upTo(4);
            due3("set", d, 0, cost, x.set(d, 0, cost), m.set(d, 0, cost));
            due3("set", d, 1, odds, x.set(d, 1, odds), m.set(d, 1, odds));
        }
        for (int s = 0; s < 4 && upTo(5) != 0; s++) {
            laneOf[s] = upTo(3);
            due3("sheet", s, laneOf[s], 16, x.sheet(s, laneOf[s], 16), m.sheet(s, laneOf[s], 16));
        }
    }

    private void run() {
        x = new BackYear();
        m = new Model();
        calls = new StringBuilder();
        made = 0;
        prepared = upTo(4) != 0;
        if (prepared) {
            prepare();
        }
        while (made + MOST_AT_ONCE <= CALLS) {
            call(pick());
        }
        check.holds("no more calls than an object is good for", made <= CALLS);
    }

    public static void main(String[] args) {
        RandomRunsTest test = new RandomRunsTest();
        for (int run = 0; run < RUNS; run++) {
            test.run();
        }
        test.check.end();
    }
}

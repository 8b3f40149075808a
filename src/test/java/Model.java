import java.math.BigInteger;
import java.util.ArrayList;
import java.util.Comparator;
import java.util.List;
import java.util.Set;
import java.util.TreeSet;

/**
 * The document once more, as slow and as near to its words as can be, with the Java library, and
 * built in other ways than the class: sets are TreeSets, walks are listed and sorted, a text is
 * judged by what could still become of it, sheets are arrays of the machine itself.
 */
final class Model {
    static final class Deed {
        int kind, day, cost = 1, odds = 4;
        Set<Integer> needs = new TreeSet<>();
        int[] worth = new int[4];

        Deed copy() {
            Deed d = new Deed();
            d.kind = kind;
            d.day = day;
            d.cost = cost;
            d.odds = odds;
            d.needs = new TreeSet<>(needs);
            d.worth = worth.clone();
            return d;
        }
    }

    static final class State {
        int people = 2, day = 11, years = 0;
        List<Deed> deeds = new ArrayList<>();
        Set<Integer> last = new TreeSet<>(), righted = new TreeSet<>();

        State copy() {
            State s = new State();
            s.people = people;
            s.day = day;
            s.years = years;
            for (Deed d : deeds) {
                s.deeds.add(d.copy());
            }
            s.last = new TreeSet<>(last);
            s.righted = new TreeSet<>(righted);
            return s;
        }
    }

    static final int BAD = -1, NOT = -2, FULL = -3, NONE = -4, NULL = -11, CAST = -12, INDEX = -13, SIZE = -14;
    private State s = new State();
    private State image = null;
    private String tape = "";
    private final Object[] sheets = new Object[4];

    // ---- sets

    static int bits(Set<Integer> set) {
        int bits = 0;
        for (int one : set) {
            bits += (int) Math.pow(2, one);
        }
        return bits;
    }

    static Set<Integer> set(int bits) {
        Set<Integer> set = new TreeSet<>();
        for (int one = 0; one < 32; one++) {
            if ((bits >>> one) % 2 == 1) {
                set.add(one);
            }
        }
        return set;
    }

    private static Set<Integer> without(Set<Integer> a, Set<Integer> b) {
        Set<Integer> left = new TreeSet<>(a);
        left.removeAll(b);
        return left;
    }

    private static Set<Integer> common(Set<Integer> a, Set<Integer> b) {
        Set<Integer> both = new TreeSet<>(a);
        both.retainAll(b);
        return both;
    }

    private boolean areDeeds(int bits) {
        for (int one : set(bits)) {
            if (one >= s.deeds.size()) {
                return false;
            }
        }
        return true;
    }

    private boolean isDeed(int deed) {
        return 0 <= deed && deed < s.deeds.size();
    }

    private boolean isPerson(int person) {
        return 0 <= person && person < s.people;
    }

    private static boolean between(long v, long low, long high) {
        return low <= v && v <= high;
    }

    // ---- what stands, what it is worth

    private static boolean byKind(int kind, Set<Integer> needs, Set<Integer> stand, boolean lastYear) {
        boolean any = needs.isEmpty() || needs.stream().anyMatch(stand::contains);
        switch (kind) {
            case 0: return stand.containsAll(needs);
            case 1: return any;
            case 2: return needs.stream().noneMatch(stand::contains);
            case 3: return any || lastYear;
            default: throw new IllegalStateException();
        }
    }

    private static boolean would(State t, int deed, Set<Integer> stand) {
        Deed d = t.deeds.get(deed);
        return byKind(d.kind, d.needs, stand, t.last.contains(deed));
    }

    /** A deed asks those that it needs, and these ask on. */
    private static boolean stands(State t, int deed, Set<Integer> righted) {
        if (righted.contains(deed)) {
            return false;
        }
        Set<Integer> met = new TreeSet<>();
        for (int need : t.deeds.get(deed).needs) {
            if (stands(t, need, righted)) {
                met.add(need);
            }
        }
        return would(t, deed, met);
    }

    private static Set<Integer> standing(State t, Set<Integer> righted) {
        Set<Integer> all = new TreeSet<>();
        for (int d = 0; d < t.deeds.size(); d++) {
            if (stands(t, d, righted)) {
                all.add(d);
            }
        }
        return all;
    }

    private static int bearer(State t, int deed) {
        int[] worth = t.deeds.get(deed).worth;
        List<Integer> people = new ArrayList<>();
        for (int p = 0; p < t.people; p++) {
            people.add(p);
        }
        people.sort(Comparator.comparingInt(p -> -worth[p]));
        if (worth[people.get(0)] > 0) {
            return people.get(0);
        }
        people.sort(Comparator.naturalOrder());
        people.sort(Comparator.comparingInt(p -> worth[p]));
        return people.get(0);
    }

    private static int valueOf(State t, int person, Set<Integer> righted) {
        int value = 0;
        for (int d : standing(t, righted)) {
            value += t.deeds.get(d).worth[person];
        }
        for (int d : righted) {
            value -= bearer(t, d) == person ? t.deeds.get(d).cost : 0;
        }
        return value;
    }

    private static int sum(State t, Set<Integer> righted) {
        int sum = 0;
        for (int p = 0; p < t.people; p++) {
            sum += valueOf(t, p, righted);
        }
        return sum;
    }

    // ---- 1 deeds

    int people(int n) {
        if (!between(n, 1, 4)) {
            return BAD;
        }
        int was = s.people;
        s.people = n;
        return was;
    }

    int deed(int kind, int day, int needs) {
        if (!between(kind, 0, 3) || !between(day, 0, 11) || !areDeeds(needs)) {
            return BAD;
        }
        for (int need : set(needs)) {
            if (s.deeds.get(need).day > day) {
                return BAD;
            }
        }
        if (s.deeds.size() == 12) {
            return FULL;
        }
        Deed d = new Deed();
        d.kind = kind;
        d.day = day;
        d.needs = set(needs);
        s.deeds.add(d);
        return s.deeds.size() - 1;
    }

    int told(int deed, int what) {
        if (!isDeed(deed) || !between(what, 0, 6)) {
            return BAD;
        }
        Deed d = s.deeds.get(deed);
        if (what == 5) {
            return standing(s, s.righted).contains(deed) ? 1 : 0;
        }
        int[] all = {d.kind, d.day, bits(d.needs), d.cost, d.odds, 0, s.righted.contains(deed) ? 1 : 0};
        return all[what];
    }

    int set(int deed, int what, int v) {
        if (!isDeed(deed) || !between(what, 0, 1) || !between(v, 0, what == 0 ? 9 : 4)) {
            return BAD;
        }
        Deed d = s.deeds.get(deed);
        int was = what == 0 ? d.cost : d.odds;
        if (what == 0) {
            d.cost = v;
        } else {
            d.odds = v;
        }
        return was;
    }

    int worth(int deed, int person, int v) {
        if (!isDeed(deed) || !between(person, 0, 3) || !between(v, -9, 9)) {
            return -100001;
        }
        int was = s.deeds.get(deed).worth[person];
        s.deeds.get(deed).worth[person] = v;
        return was;
    }

    int worthOf(int deed, int person) {
        return isDeed(deed) && between(person, 0, 3) ? s.deeds.get(deed).worth[person] : -100001;
    }

    int last(int set) {
        if (!areDeeds(set)) {
            return BAD;
        }
        int was = bits(s.last);
        s.last = set(set);
        return was;
    }

    int type(int letter) {
        if (!between(letter, 32, 126)) {
            return BAD;
        }
        if (tape.length() == 80) {
            return FULL;
        }
        tape += (char) letter;
        return tape.length();
    }

    /** The deeds of a whole text without blanks, or null. */
    private static List<Deed> read(String text) {
        String[] parts = text.split(",", -1);
        if (parts.length > 12) {
            return null;
        }
        List<Deed> deeds = new ArrayList<>();
        for (String part : parts) {
            if (!part.matches("[pash][A-L][a-l]*")) {
                return null;
            }
            Deed d = new Deed();
            d.kind = "pash".indexOf(part.charAt(0));
            d.day = part.charAt(1) - 'A';
            for (char letter : part.substring(2).toCharArray()) {
                int need = letter - 'a';
                if (need >= deeds.size() || deeds.get(need).day > d.day || !d.needs.add(need)) {
                    return null;
                }
            }
            deeds.add(d);
        }
        return deeds;
    }

    /** Whether something can still come behind this so that it is a year (or it is one). */
    private static boolean canGoOn(String text) {
        return read(text) != null || read(text + "L") != null || read(text + "pL") != null;
    }

    int text() {
        String letters = tape;
        tape = "";
        String solid = "";
        for (int i = 0; i < letters.length(); i++) {
            if (letters.charAt(i) != ' ') {
                solid += letters.charAt(i);
                if (!canGoOn(solid)) {
                    return -20 - i;
                }
            }
        }
        List<Deed> deeds = read(solid);
        if (deeds == null) {
            return -20 - letters.length();
        }
        s.deeds = deeds;
        s.last = new TreeSet<>();
        s.righted = new TreeSet<>();
        s.day = 11;
        return deeds.size();
    }

    int count(int what) {
        if (!between(what, 0, 6)) {
            return BAD;
        }
        if (what == 4) {
            return bits(standing(s, s.righted));
        }
        int[] all = {s.people, s.deeds.size(), s.day + 1, s.years, 0, bits(s.righted), bits(s.last)};
        return all[what];
    }

    // ---- 2 the walk

    int right(int deed) {
        if (!isDeed(deed)) {
            return BAD;
        }
        Set<Integer> before = standing(s, s.righted);
        boolean one = s.righted.stream().anyMatch(d -> s.deeds.get(d).day == s.day);
        if (s.deeds.get(deed).day != s.day || !before.contains(deed) || one) {
            return NOT;
        }
        s.righted.add(deed);
        return bits(without(before, standing(s, s.righted)));
    }

    int back() {
        return s.day == -1 ? -100002 : --s.day;
    }

    int year() {
        if (s.years == 9999) {
            return FULL;
        }
        s.last = standing(s, s.righted);
        s.righted = new TreeSet<>();
        s.day = 11;
        s.years++;
        return standing(s, s.righted).size();
    }

    int value(int person) {
        if (person == -1) {
            return sum(s, s.righted);
        }
        return isPerson(person) ? valueOf(s, person, s.righted) : -100001;
    }

    int bears(int deed) {
        return isDeed(deed) ? bearer(s, deed) : BAD;
    }

    // ---- walks

    /** All walks of at most so many deeds: the fewest deeds first, then the least sets. */
    private static List<Set<Integer>> walks(State t, int most) {
        List<Set<Integer>> all = new ArrayList<>();
        all.add(new TreeSet<>());
        Set<Integer> free = standing(t, new TreeSet<>());
        for (int day = 0; day <= 11; day++) {
            List<Set<Integer>> more = new ArrayList<>();
            for (Set<Integer> walk : all) {
                for (int d : free) {
                    if (t.deeds.get(d).day == day && walk.size() < most) {
                        Set<Integer> longer = new TreeSet<>(walk);
                        longer.add(d);
                        more.add(longer);
                    }
                }
            }
            all.addAll(more);
        }
        all.sort(Comparator.comparingInt((Set<Integer> w) -> w.size()).thenComparingInt(Model::bits));
        return all;
    }

    private static Set<Integer> bestWalk(State t, int k, boolean fair) {
        Set<Integer> best = null;
        for (Set<Integer> walk : walks(t, k)) {
            boolean allowed = true;
            for (int p = 0; fair && p < t.people; p++) {
                allowed &= valueOf(t, p, walk) >= valueOf(t, p, new TreeSet<>());
            }
            if (allowed && (best == null || sum(t, walk) > sum(t, best))) {
                best = walk;
            }
        }
        return best;
    }

    int best(int k, int fair, int what) {
        if (!between(k, 0, 4) || !between(fair, 0, 1) || !between(what, 0, 1)) {
            return -100001;
        }
        Set<Integer> walk = bestWalk(s, k, fair == 1);
        return what == 0 ? sum(s, walk) : bits(walk);
    }

    int wanted(int must, int not) {
        if (!areDeeds(must) || !areDeeds(not) || !common(set(must), set(not)).isEmpty()) {
            return BAD;
        }
        for (Set<Integer> walk : walks(s, 4)) {
            Set<Integer> stand = standing(s, walk);
            if (stand.containsAll(set(must)) && common(stand, set(not)).isEmpty()) {
                return bits(walk);
            }
        }
        return NONE;
    }

    private static Set<Integer> play(State t, int day, Set<Integer> chosen, int idle) {
        if (day == -1) {
            return chosen;
        }
        int one = day % t.people;
        List<Set<Integer>> ends = new ArrayList<>();
        ends.add(play(t, day - 1, chosen, idle));
        if (one != idle) {
            for (int d : standing(t, new TreeSet<>())) {
                if (t.deeds.get(d).day == day) {
                    Set<Integer> more = new TreeSet<>(chosen);
                    more.add(d);
                    ends.add(play(t, day - 1, more, idle));
                }
            }
        }
        if (ends.size() > 1) {
            // The sort is stable: of like ones the first stays ahead.
            ends.sort(Comparator.comparingInt(end -> -valueOf(t, one, end)));
        }
        return ends.get(0);
    }

    int self() {
        return bits(play(s, 11, new TreeSet<>(), -1));
    }

    int turn(int person) {
        if (!isPerson(person)) {
            return -100001;
        }
        return valueOf(s, person, play(s, 11, new TreeSet<>(), -1))
            - valueOf(s, person, play(s, 11, new TreeSet<>(), person));
    }

    int bargain(int deed, int first, int other, int what) {
        if (!isDeed(deed) || !isPerson(first) || !isPerson(other) || first == other || !between(what, 0, 1)) {
            return BAD;
        }
        if (!standing(s, s.righted).contains(deed)) {
            return NOT;
        }
        Set<Integer> too = new TreeSet<>(s.righted);
        too.add(deed);
        int gain = valueOf(s, first, too) - valueOf(s, first, s.righted);
        int loss = valueOf(s, other, s.righted) - valueOf(s, other, too);
        if (!(gain >= loss && gain > 0)) {
            return NONE;
        }
        return what == 1 ? gain : loss < 0 ? 0 : loss;
    }

    private int[] dues() {
        int[] dues = new int[s.people];
        for (int d : s.righted) {
            int bearer = bearer(s, d);
            List<Integer> harmed = new ArrayList<>();
            for (int p = 0; p < s.people; p++) {
                if (p != bearer && s.deeds.get(d).worth[p] < 0) {
                    harmed.add(p);
                }
            }
            int left = s.deeds.get(d).cost;
            while (!harmed.isEmpty() && left > 0) {
                // All get 1 each while it lasts; then the first gets the rest.
                if (left >= harmed.size()) {
                    for (int p : harmed) {
                        dues[p]++;
                        dues[bearer]--;
                        left--;
                    }
                } else {
                    dues[harmed.get(0)] += left;
                    dues[bearer] -= left;
                    left = 0;
                }
            }
        }
        return dues;
    }

    int due(int person) {
        return isPerson(person) ? dues()[person] : -100001;
    }

    /** The payments themselves: always one who owes pays one who is owed, all ways tried. */
    private static int fewest(int[] dues) {
        int best = Integer.MAX_VALUE;
        boolean paid = true;
        for (int from = 0; from < dues.length; from++) {
            for (int to = 0; to < dues.length; to++) {
                if (dues[from] < 0 && dues[to] > 0) {
                    paid = false;
                    int[] next = dues.clone();
                    int much = Math.min(-dues[from], dues[to]);
                    next[from] += much;
                    next[to] -= much;
                    best = Math.min(best, 1 + fewest(next));
                }
            }
        }
        return paid ? 0 : best;
    }

    int payments() {
        return fewest(dues());
    }

    // ---- 3 what was, what comes

    int forgotten(int day, int told, int what) {
        if (!between(day, 0, 11) || !areDeeds(told) || !between(what, 0, 1)) {
            return BAD;
        }
        List<Set<Integer>> may = new ArrayList<>();
        for (int one : set(told)) {
            if (s.deeds.get(one).day == day) {
                return BAD;
            }
        }
        for (int bits = 0; bits < 1 << s.deeds.size(); bits++) {
            Set<Integer> stood = set(bits);
            boolean fits = true;
            for (int d = 0; d < s.deeds.size() && fits; d++) {
                if (s.deeds.get(d).day != day) {
                    fits = stood.contains(d) == set(told).contains(d) && stood.contains(d) == would(s, d, stood);
                }
            }
            if (fits) {
                may.add(without(stood, set(told)));
            }
        }
        if (what == 0) {
            return may.size();
        }
        if (may.isEmpty()) {
            return NONE;
        }
        Set<Integer> sure = new TreeSet<>(may.get(0));
        may.forEach(sure::retainAll);
        return bits(sure);
    }

    /** Over 4 ^ deeds: all that can come, each as often as it does. */
    private BigInteger[] expected() {
        BigInteger over = BigInteger.valueOf(4).pow(s.deeds.size());
        BigInteger total = BigInteger.ZERO;
        for (int bits = 0; bits < 1 << s.deeds.size(); bits++) {
            Set<Integer> stood = set(bits);
            BigInteger often = BigInteger.ONE;
            int worth = 0;
            for (int d = 0; d < s.deeds.size(); d++) {
                Set<Integer> ahead = new TreeSet<>(stood);
                int number = d;
                ahead.removeIf(e -> e >= number);
                int yes = would(s, d, ahead) ? s.deeds.get(d).odds : 0;
                often = often.multiply(BigInteger.valueOf(stood.contains(d) ? yes : 4 - yes));
                for (int p = 0; p < s.people && stood.contains(d); p++) {
                    worth += s.deeds.get(d).worth[p];
                }
            }
            total = total.add(often.multiply(BigInteger.valueOf(worth)));
        }
        BigInteger common = total.gcd(over);
        return new BigInteger[] {total.divide(common), over.divide(common)};
    }

    long upper() {
        return expected()[0].longValueExact();
    }

    long lower() {
        return expected()[1].longValueExact();
    }

    int comes(int k, int what) {
        if (!between(k, 0, 4) || !between(what, 0, 1)) {
            return BAD;
        }
        State t = s.copy();
        List<Set<Integer>> begun = new ArrayList<>();
        while (!begun.contains(t.last)) {
            if (begun.size() > 60) {
                return NONE;
            }
            begun.add(t.last);
            t.last = standing(t, bestWalk(t, k, false));
        }
        return what == 0 ? begun.size() : begun.size() - begun.indexOf(t.last);
    }

    int image() {
        image = s.copy();
        return 1;
    }

    int restore() {
        if (image == null) {
            return NONE;
        }
        s = image.copy();
        return 1;
    }

    // ---- 4 sheets

    private static final Class<?>[] LANES = {byte[].class, short[].class, int[].class, long[].class};

    /** The items as the machine itself would find them, or what it throws. */
    private long[] take(int sheet, int lane, int i, int n) {
        Object row = LANES[lane].cast(sheets[sheet]);
        int length = java.lang.reflect.Array.getLength(row);
        java.util.Objects.checkFromIndexSize(i, n, length);
        long[] items = new long[n];
        for (int j = 0; j < n; j++) {
            items[j] = java.lang.reflect.Array.getLong(row, i + j);
        }
        return items;
    }

    private int fault(int sheet, int lane, int i, int n) {
        if (!between(sheet, 0, 3) || !between(lane, 0, 3)) {
            return BAD;
        }
        try {
            take(sheet, lane, i, n);
            return 0;
        } catch (NullPointerException e) {
            return NULL;
        } catch (ClassCastException e) {
            return CAST;
        } catch (IndexOutOfBoundsException e) {
            return INDEX;
        }
    }

    private void put(int sheet, int i, long v) {
        Object row = sheets[sheet];
        if (row instanceof byte[]) {
            ((byte[]) row)[i] = (byte) v;
        } else if (row instanceof short[]) {
            ((short[]) row)[i] = (short) v;
        } else if (row instanceof int[]) {
            ((int[]) row)[i] = (int) v;
        } else {
            ((long[]) row)[i] = v;
        }
    }

    int judged(int sheet, int lane, int i) {
        int fault = fault(sheet, lane, i, 12);
        if (fault != 0) {
            return fault;
        }
        long[] row = take(sheet, lane, i, 12);
        Set<Integer> free = standing(s, new TreeSet<>());
        for (int day = 11; day >= 0; day--) {
            long item = row[11 - day];
            boolean can = item == -1;
            for (int d : free) {
                can |= item == d && s.deeds.get(d).day == day;
            }
            if (!can) {
                return 11 - day;
            }
        }
        return NONE;
    }

    int net(int deed, int sheet, int lane, int i, int n, int what) {
        if (!isDeed(deed) || !between(sheet, 0, 3) || !between(lane, 0, 3) || !between(n, 1, 8)
            || !between(what, 0, 1)) {
            return BAD;
        }
        int fault = fault(sheet, lane, i, n);
        if (fault != 0) {
            return fault;
        }
        long[] years = take(sheet, lane, i, n);
        for (long year : years) {
            if (!between(year, 0, (1L << s.deeds.size()) - 1)) {
                return NOT;
            }
        }
        Deed asked = s.deeds.get(deed);
        List<Set<Integer>> nets = new ArrayList<>();
        nets.add(new TreeSet<>());
        for (int d = 0; d < deed; d++) {
            for (int known = nets.size() - 1; known >= 0 && s.deeds.get(d).day <= asked.day; known--) {
                Set<Integer> more = new TreeSet<>(nets.get(known));
                more.add(d);
                nets.add(more);
            }
        }
        for (long year : years) {
            Set<Integer> stood = set((int) year);
            nets.removeIf(net -> byKind(asked.kind, net, stood, false) != stood.contains(deed));
        }
        nets.sort(Comparator.comparingInt(Model::bits));
        return what == 0 ? nets.size() : nets.isEmpty() ? NONE : bits(nets.get(0));
    }

    int film(int sheet, int lane, int i) {
        int fault = fault(sheet, lane, i, s.people);
        if (fault != 0) {
            return fault;
        }
        for (int p = 0; p < s.people; p++) {
            put(sheet, i + p, valueOf(s, p, s.righted));
        }
        return s.people;
    }

    int sheet(int sheet, int lane, int n) {
        if (!between(sheet, 0, 3) || !between(lane, 0, 3) || n > 16) {
            return BAD;
        }
        if (n < 0) {
            return SIZE;
        }
        sheets[sheet] = java.lang.reflect.Array.newInstance(LANES[lane].getComponentType(), n);
        return n;
    }

    int drop(int sheet) {
        if (!between(sheet, 0, 3)) {
            return BAD;
        }
        if (sheets[sheet] == null) {
            return NULL;
        }
        int had = java.lang.reflect.Array.getLength(sheets[sheet]);
        sheets[sheet] = null;
        return had;
    }

    int item(int sheet, int lane, int i, long v) {
        int fault = fault(sheet, lane, i, 1);
        if (fault != 0) {
            return fault;
        }
        put(sheet, i, v);
        return 1;
    }

    int copy(int from, int i, int to, int j, int n) {
        if (!between(from, 0, 3) || !between(to, 0, 3)) {
            return BAD;
        }
        try {
            System.arraycopy(sheets[from], i, sheets[to], j, n);
            return n;
        } catch (NullPointerException e) {
            return NULL;
        } catch (ArrayStoreException e) {
            return CAST;
        } catch (IndexOutOfBoundsException e) {
            return INDEX;
        }
    }
}

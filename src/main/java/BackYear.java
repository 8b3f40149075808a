/**
 * The year walked backward: a people that goes through each year again from the last day to the
 * first, and may put right one deed a day. README.md tells how to use it.
 *
 * Sets of deeds are bits. Below 0 are refusals only, but where a comment says otherwise.
 */
public final class BackYear {
    public static final int BAD = -1, NOT = -2, FULL = -3, NONE = -4, NULL = -11, CAST = -12, INDEX = -13, SIZE = -14;

    /** By how much refusals are less where an answer may itself be below 0. */
    private static final int LESS = 100000;
    /** The answer to a text whose very first letter can't stand there. */
    private static final int FAULT = -20;
    private static final int MOST_PEOPLE = 4, MOST_DEEDS = 12, MOST_WALKED = 4, MOST_YEARS = 9999;
    private static final int LAST_DAY = 11, WALK_ITEMS = 12;
    private static final int MOST_COST = 9, MOST_WORTH = 9, FULL_ODDS = 4;
    private static final int PLAIN = 0, ANY = 1, SPITE = 2, HABIT = 3;
    private static final int MOST_TO_COME = 60, MOST_TOLD_YEARS = 8;
    private static final int TAPE_LENGTH = 80, FIRST_LETTER = 32, LAST_LETTER = 126;
    private static final int SHEETS = 4, LANES = 4, MOST_ITEMS = 16;
    private static final int NOBODY = -1, NOTHING = -1;

    private final Year now = new Year();
    private final Year kept = new Year();
    /** Where a text is read and years to come are walked, so that nothing changes before it may. */
    private final Year draft = new Year();
    private final Tape tape = new Tape();
    private final Sheets sheets = new Sheets();
    /** Last year's deeds at the beginning of each year to come. */
    private final int[] begun = new int[MOST_TO_COME + 1];
    private final int[] toldYears = new int[MOST_TOLD_YEARS];
    private final int[] dues = new int[MOST_PEOPLE];
    private boolean imaged = false;

    public BackYear() {
    }

    // ---- 1 deeds

    public int people(int n) {
        if (n < 1 || n > MOST_PEOPLE) {
            return BAD;
        }
        int before = now.people;
        now.people = n;
        return before;
    }

    public int deed(int kind, int day, int needs) {
        if (kind < PLAIN || kind > HABIT || !isDay(day) || !isWithin(needs, now.needable(now.deeds, day))) {
            return BAD;
        }
        return now.add(kind, day, needs) ? now.deeds - 1 : FULL;
    }

    public int told(int deed, int what) {
        if (!now.has(deed)) {
            return BAD;
        }
        switch (what) {
            case 0: return now.kind[deed];
            case 1: return now.day[deed];
            case 2: return now.needs[deed];
            case 3: return now.cost[deed];
            case 4: return now.odds[deed];
            case 5: return isIn(now.standing(now.righted), deed) ? 1 : 0;
            case 6: return isIn(now.righted, deed) ? 1 : 0;
            default: return BAD;
        }
    }

    public int set(int deed, int what, int v) {
        int most = what == 0 ? MOST_COST : FULL_ODDS;
        if (!now.has(deed) || !isChoice(what) || v < 0 || v > most) {
            return BAD;
        }
        int[] row = what == 0 ? now.cost : now.odds;
        int before = row[deed];
        row[deed] = v;
        return before;
    }

    /** May be below 0. Persons who are not there yet can be told of, too. */
    public int worth(int deed, int person, int v) {
        if (!now.has(deed) || !isEverPerson(person) || v < -MOST_WORTH || v > MOST_WORTH) {
            return BAD - LESS;
        }
        int before = now.worthTo(deed, person);
        now.worth[deed * MOST_PEOPLE + person] = v;
        return before;
    }

    /** May be below 0. */
    public int worthOf(int deed, int person) {
        if (!now.has(deed) || !isEverPerson(person)) {
            return BAD - LESS;
        }
        return now.worthTo(deed, person);
    }

    public int last(int set) {
        if (!isWithin(set, now.all())) {
            return BAD;
        }
        int before = now.lastYear;
        now.lastYear = set;
        return before;
    }

    public int type(int letter) {
        if (letter < FIRST_LETTER || letter > LAST_LETTER) {
            return BAD;
        }
        return tape.add((char) letter) ? tape.typed : FULL;
    }

    /** FAULT and less: the text is none. */
    public int text() {
        draft.clear();
        int answer = tape.readInto(draft);
        tape.typed = 0;
        if (answer > 0) {
            draft.people = now.people;
            draft.years = now.years;
            now.become(draft);
        }
        return answer;
    }

    public int count(int what) {
        switch (what) {
            case 0: return now.people;
            case 1: return now.deeds;
            case 2: return now.theDay + 1;
            case 3: return now.years;
            case 4: return now.standing(now.righted);
            case 5: return now.righted;
            case 6: return now.lastYear;
            default: return BAD;
        }
    }

    // ---- 2 the walk

    public int right(int deed) {
        if (!now.has(deed)) {
            return BAD;
        }
        int before = now.standing(now.righted);
        boolean walked = (now.righted & now.ofDay(now.theDay)) != 0;
        if (now.day[deed] != now.theDay || !isIn(before, deed) || walked) {
            return NOT;
        }
        now.righted |= 1 << deed;
        return before & ~now.standing(now.righted);
    }

    /** -1: the year is over. */
    public int back() {
        if (now.theDay < 0) {
            return NOT - LESS;
        }
        now.theDay--;
        return now.theDay;
    }

    public int year() {
        if (now.years >= MOST_YEARS) {
            return FULL;
        }
        now.beginNext();
        return Integer.bitCount(now.standing(now.righted));
    }

    /** May be below 0. Of person -1: the sum of all. */
    public int value(int person) {
        if (person == -1) {
            return now.sumBy(now.righted);
        }
        if (!now.isPerson(person)) {
            return BAD - LESS;
        }
        return now.valueBy(person, now.righted);
    }

    public int bears(int deed) {
        return now.has(deed) ? now.bearer(deed) : BAD;
    }

    // ---- walks

    /** May be below 0. */
    public int best(int k, int fair, int what) {
        if (!isWalkLength(k) || !isChoice(fair) || !isChoice(what)) {
            return BAD - LESS;
        }
        int walk = Walks.most(now, k, fair == 1);
        return what == 0 ? now.sumBy(walk) : walk;
    }

    public int wanted(int must, int not) {
        if (!isWithin(must, now.all()) || !isWithin(not, now.all()) || (must & not) != 0) {
            return BAD;
        }
        return Walks.fewest(now, must, not);
    }

    public int self() {
        return Walks.selfish(now, NOBODY);
    }

    /** May be below 0. */
    public int turn(int person) {
        if (!now.isPerson(person)) {
            return BAD - LESS;
        }
        int chosen = now.valueBy(person, Walks.selfish(now, NOBODY));
        return chosen - now.valueBy(person, Walks.selfish(now, person));
    }

    public int bargain(int deed, int first, int other, int what) {
        if (!now.has(deed) || !now.isPerson(first) || !now.isPerson(other) || first == other || !isChoice(what)) {
            return BAD;
        }
        if (!isIn(now.standing(now.righted), deed)) {
            return NOT;
        }
        int then = now.righted | 1 << deed;
        int gain = now.valueBy(first, then) - now.valueBy(first, now.righted);
        int loss = now.valueBy(other, now.righted) - now.valueBy(other, then);
        if (gain < loss || gain <= 0) {
            return NONE;
        }
        return what == 0 ? Math.max(loss, 0) : gain;
    }

    /** May be below 0. */
    public int due(int person) {
        return now.isPerson(person) ? Bills.dueTo(now, person) : BAD - LESS;
    }

    public int payments() {
        for (int person = 0; person < MOST_PEOPLE; person++) {
            dues[person] = now.isPerson(person) ? Bills.dueTo(now, person) : 0;
        }
        return Bills.fewestPayments(dues);
    }

    // ---- 3 what was, what comes

    public int forgotten(int day, int told, int what) {
        if (!isDay(day) || !isChoice(what)) {
            return BAD;
        }
        int lost = now.ofDay(day);
        int others = now.all() & ~lost;
        if (!isWithin(told, others)) {
            return BAD;
        }
        int count = 0;
        int sure = lost;
        for (int stood = 0; stood <= lost; stood++) {
            if (isWithin(stood, lost) && Guesses.explains(now, told | stood, others)) {
                count++;
                sure &= stood;
            }
        }
        if (what == 0) {
            return count;
        }
        return count == 0 ? NONE : sure;
    }

    /** May be below 0. */
    public long upper() {
        long mean = Guesses.mean(now, 0, 0, 0);
        return mean >> Guesses.halvings(mean, now.deeds);
    }

    public long lower() {
        long mean = Guesses.mean(now, 0, 0, 0);
        return Guesses.parts(now.deeds) >> Guesses.halvings(mean, now.deeds);
    }

    public int comes(int k, int what) {
        if (!isWalkLength(k) || !isChoice(what)) {
            return BAD;
        }
        draft.become(now);
        begun[0] = draft.lastYear;
        for (int year = 1; year <= MOST_TO_COME; year++) {
            draft.righted = Walks.most(draft, k, false);
            draft.beginNext();
            for (int ahead = 0; ahead < year; ahead++) {
                if (begun[ahead] == draft.lastYear) {
                    return what == 0 ? year : year - ahead;
                }
            }
            begun[year] = draft.lastYear;
        }
        return NONE;
    }

    public int image() {
        kept.become(now);
        imaged = true;
        return 1;
    }

    public int restore() {
        if (!imaged) {
            return NONE;
        }
        now.become(kept);
        return 1;
    }

    // ---- 4 sheets

    public int judged(int sheet, int lane, int i) {
        int fault = sheets.faultOf(sheet, lane, i, WALK_ITEMS);
        if (fault != 0) {
            return fault;
        }
        int open = now.standing(0);
        for (int place = 0; place < WALK_ITEMS; place++) {
            long chosen = sheets.at(sheet, i + place);
            if (chosen != NOTHING && !isOneOf(chosen, open & now.ofDay(LAST_DAY - place))) {
                return place;
            }
        }
        return NONE;
    }

    public int net(int deed, int sheet, int lane, int i, int n, int what) {
        if (!now.has(deed) || n < 1 || n > MOST_TOLD_YEARS || !isChoice(what)) {
            return BAD;
        }
        int fault = sheets.faultOf(sheet, lane, i, n);
        if (fault != 0) {
            return fault;
        }
        if (!takeToldYears(sheet, i, n)) {
            return NOT;
        }
        int free = now.needable(deed, now.day[deed]);
        int count = 0;
        int least = NONE;
        for (int needs = free; needs >= 0; needs--) {
            if (isWithin(needs, free) && Guesses.fits(now.kind[deed], needs, 1 << deed, toldYears, n)) {
                count++;
                least = needs;
            }
        }
        return what == 0 ? count : least;
    }

    public int film(int sheet, int lane, int i) {
        int fault = sheets.faultOf(sheet, lane, i, now.people);
        if (fault != 0) {
            return fault;
        }
        for (int person = 0; person < now.people; person++) {
            sheets.put(sheet, i + person, now.valueBy(person, now.righted));
        }
        return now.people;
    }

    public int sheet(int sheet, int lane, int n) {
        if (!isSheet(sheet) || !isLane(lane) || n > MOST_ITEMS) {
            return BAD;
        }
        if (n < 0) {
            return SIZE;
        }
        sheets.begin(sheet, lane, n);
        return n;
    }

    public int drop(int sheet) {
        if (!isSheet(sheet)) {
            return BAD;
        }
        if (!sheets.holds(sheet)) {
            return NULL;
        }
        int had = sheets.size[sheet];
        sheets.begin(sheet, NOTHING, 0);
        return had;
    }

    public int item(int sheet, int lane, int i, long v) {
        int fault = sheets.faultOf(sheet, lane, i, 1);
        if (fault != 0) {
            return fault;
        }
        sheets.put(sheet, i, v);
        return 1;
    }

    public int copy(int from, int i, int to, int j, int n) {
        if (!isSheet(from) || !isSheet(to)) {
            return BAD;
        }
        if (!sheets.holds(from) || !sheets.holds(to)) {
            return NULL;
        }
        if (sheets.lane[from] != sheets.lane[to]) {
            return CAST;
        }
        if (!sheets.reaches(from, i, n) || !sheets.reaches(to, j, n)) {
            return INDEX;
        }
        sheets.move(from, i, to, j, n);
        return n;
    }

    /** Takes n items as sets of deeds; not, if one has others than there are. */
    private boolean takeToldYears(int sheet, int i, int n) {
        for (int k = 0; k < n && k < toldYears.length; k++) {
            long set = sheets.at(sheet, i + k);
            if ((set & ~(long) now.all()) != 0) {
                return false;
            }
            toldYears[k] = (int) set;
        }
        return true;
    }

    private static boolean isDay(int day) {
        return day >= 0 && day <= LAST_DAY;
    }

    /** One who may come to be one of the people, be there four of them. */
    private static boolean isEverPerson(int person) {
        return person >= 0 && person < MOST_PEOPLE;
    }

    private static boolean isWalkLength(int k) {
        return k >= 0 && k <= MOST_WALKED;
    }

    private static boolean isChoice(int what) {
        return what == 0 || what == 1;
    }

    private static boolean isSheet(int sheet) {
        return sheet >= 0 && sheet < SHEETS;
    }

    private static boolean isLane(int lane) {
        return lane >= 0 && lane < LANES;
    }

    private static boolean isIn(int set, int one) {
        return (set >> one & 1) != 0;
    }

    private static boolean isOneOf(long deed, int set) {
        return deed >= 0 && deed < MOST_DEEDS && isIn(set, (int) deed);
    }

    private static boolean isWithin(int set, int whole) {
        return (set & ~whole) == 0;
    }

    /** The people, their deeds, and how far the year is walked: all that an image keeps. */
    private static final class Year {
        private int people = 2;
        private int deeds = 0;
        private int theDay = LAST_DAY;
        private int years = 0;
        private int lastYear = 0;
        private int righted = 0;
        private final int[] kind = new int[MOST_DEEDS];
        private final int[] day = new int[MOST_DEEDS];
        private final int[] needs = new int[MOST_DEEDS];
        private final int[] cost = new int[MOST_DEEDS];
        private final int[] odds = new int[MOST_DEEDS];
        /** To all that may come to be people, deed behind deed. */
        private final int[] worth = new int[MOST_DEEDS * MOST_PEOPLE];

        private void become(Year other) {
            people = other.people;
            deeds = other.deeds;
            theDay = other.theDay;
            years = other.years;
            lastYear = other.lastYear;
            righted = other.righted;
            System.arraycopy(other.kind, 0, kind, 0, MOST_DEEDS);
            System.arraycopy(other.day, 0, day, 0, MOST_DEEDS);
            System.arraycopy(other.needs, 0, needs, 0, MOST_DEEDS);
            System.arraycopy(other.cost, 0, cost, 0, MOST_DEEDS);
            System.arraycopy(other.odds, 0, odds, 0, MOST_DEEDS);
            System.arraycopy(other.worth, 0, worth, 0, MOST_DEEDS * MOST_PEOPLE);
        }

        /** No deeds, and nothing walked. */
        private void clear() {
            deeds = 0;
            theDay = LAST_DAY;
            lastYear = 0;
            righted = 0;
        }

        private boolean add(int itsKind, int itsDay, int itsNeeds) {
            if (deeds >= MOST_DEEDS) {
                return false;
            }
            kind[deeds] = itsKind;
            day[deeds] = itsDay;
            needs[deeds] = itsNeeds;
            cost[deeds] = 1;
            odds[deeds] = FULL_ODDS;
            for (int person = 0; person < MOST_PEOPLE; person++) {
                worth[deeds * MOST_PEOPLE + person] = 0;
            }
            deeds++;
            return true;
        }

        private void beginNext() {
            lastYear = standing(righted);
            righted = 0;
            theDay = LAST_DAY;
            years++;
        }

        private boolean has(int deed) {
            return deed >= 0 && deed < deeds;
        }

        private boolean isPerson(int person) {
            return person >= 0 && person < people;
        }

        private int all() {
            return (1 << deeds) - 1;
        }

        private int ofDay(int told) {
            int set = 0;
            for (int deed = 0; deed < deeds; deed++) {
                if (day[deed] == told) {
                    set |= 1 << deed;
                }
            }
            return set;
        }

        /** What a deed of that number and day may need. */
        private int needable(int number, int itsDay) {
            int set = 0;
            for (int deed = 0; deed < number && deed < deeds; deed++) {
                if (day[deed] <= itsDay) {
                    set |= 1 << deed;
                }
            }
            return set;
        }

        private int worthTo(int deed, int person) {
            return worth[deed * MOST_PEOPLE + person];
        }

        private int worthToAll(int deed) {
            int sum = 0;
            for (int person = 0; person < people; person++) {
                sum += worthTo(deed, person);
            }
            return sum;
        }

        /** Whether the deed stands, unless it is righted, when those of the set stand. */
        private boolean wouldStand(int deed, int stand) {
            boolean goesOn = kind[deed] == HABIT && isIn(lastYear, deed);
            return goesOn || isMet(kind[deed], needs[deed], stand);
        }

        /** A habit is taken here as no deed of last year's. */
        private static boolean isMet(int itsKind, int itsNeeds, int stand) {
            int met = itsNeeds & stand;
            switch (itsKind) {
                case PLAIN: return met == itsNeeds;
                case SPITE: return met == 0;
                default: return met != 0 || itsNeeds == 0;
            }
        }

        /** One go is enough, since a deed needs only those of lesser numbers. */
        private int standing(int gone) {
            int stand = 0;
            for (int deed = 0; deed < deeds; deed++) {
                if (!isIn(gone, deed) && wouldStand(deed, stand)) {
                    stand |= 1 << deed;
                }
            }
            return stand;
        }

        private int bearer(int deed) {
            int most = 0;
            int least = 0;
            for (int person = 1; person < people; person++) {
                if (worthTo(deed, person) > worthTo(deed, most)) {
                    most = person;
                }
                if (worthTo(deed, person) < worthTo(deed, least)) {
                    least = person;
                }
            }
            return worthTo(deed, most) > 0 ? most : least;
        }

        private int valueBy(int person, int gone) {
            return valueOf(person, gone, standing(gone));
        }

        private int sumBy(int gone) {
            int stand = standing(gone);
            int sum = 0;
            for (int person = 0; person < people; person++) {
                sum += valueOf(person, gone, stand);
            }
            return sum;
        }

        private int valueOf(int person, int gone, int stand) {
            int sum = 0;
            for (int deed = 0; deed < deeds; deed++) {
                if (isIn(stand, deed)) {
                    sum += worthTo(deed, person);
                }
                if (isIn(gone, deed) && bearer(deed) == person) {
                    sum -= cost[deed];
                }
            }
            return sum;
        }
    }

    /** Which walk is chosen. */
    private static final class Walks {

        private static int most(Year year, int k, boolean fair) {
            int open = year.standing(0);
            int best = 0;
            int sum = year.sumBy(0);
            for (int set = 1; set <= open; set++) {
                if (!isWalk(year, set, open, k)) {
                    continue;
                }
                int its = year.sumBy(set);
                boolean fewer = Integer.bitCount(set) < Integer.bitCount(best);
                if ((its > sum || its == sum && fewer) && (!fair || isFair(year, set))) {
                    best = set;
                    sum = its;
                }
            }
            return best;
        }

        private static int fewest(Year year, int must, int not) {
            int open = year.standing(0);
            int best = NONE;
            int size = MOST_WALKED + 1;
            for (int set = 0; set <= open; set++) {
                if (Integer.bitCount(set) >= size || !isWalk(year, set, open, MOST_WALKED)) {
                    continue;
                }
                int stand = year.standing(set);
                if (isWithin(must, stand) && (not & stand) == 0) {
                    best = set;
                    size = Integer.bitCount(set);
                }
            }
            return best;
        }

        private static boolean isWalk(Year year, int set, int open, int k) {
            if (!isWithin(set, open) || Integer.bitCount(set) > k) {
                return false;
            }
            int walked = 0;
            for (int deed = 0; deed < year.deeds; deed++) {
                if (isIn(set, deed)) {
                    int day = 1 << year.day[deed];
                    if ((walked & day) != 0) {
                        return false;
                    }
                    walked |= day;
                }
            }
            return true;
        }

        private static boolean isFair(Year year, int set) {
            for (int person = 0; person < year.people; person++) {
                if (year.valueBy(person, set) < year.valueBy(person, 0)) {
                    return false;
                }
            }
            return true;
        }

        private static int selfish(Year year, int idle) {
            return play(year, LAST_DAY, 0, year.standing(0), idle);
        }

        /** What is righted in the end, if all choose for themselves from that day on. */
        private static int play(Year year, int day, int righted, int open, int idle) {
            if (day < 0) {
                return righted;
            }
            int end = play(year, day - 1, righted, open, idle);
            int one = chooser(year, day);
            int choices = open & year.ofDay(day);
            if (one == idle || choices == 0) {
                return end;
            }
            int most = year.valueBy(one, end);
            for (int deed = 0; deed < year.deeds; deed++) {
                if (isIn(choices, deed)) {
                    int other = play(year, day - 1, righted | 1 << deed, open, idle);
                    int its = year.valueBy(one, other);
                    if (its > most) {
                        most = its;
                        end = other;
                    }
                }
            }
            return end;
        }

        private static int chooser(Year year, int day) {
            return year.people > 0 ? day % year.people : 0;
        }
    }

    /** Who owes whom for what is righted. */
    private static final class Bills {

        private static int dueTo(Year year, int person) {
            int due = 0;
            for (int deed = 0; deed < year.deeds; deed++) {
                if (isIn(year.righted, deed)) {
                    due += dueFor(year, deed, person);
                }
            }
            return due;
        }

        private static int dueFor(Year year, int deed, int person) {
            int bearer = year.bearer(deed);
            int first = NOBODY;
            int harmed = 0;
            for (int one = 0; one < year.people; one++) {
                if (one != bearer && year.worthTo(deed, one) < 0) {
                    first = harmed == 0 ? one : first;
                    harmed++;
                }
            }
            if (harmed == 0) {
                return 0;
            }
            if (person == bearer) {
                return -year.cost[deed];
            }
            if (year.worthTo(deed, person) >= 0) {
                return 0;
            }
            int left = person == first ? year.cost[deed] % harmed : 0;
            return year.cost[deed] / harmed + left;
        }

        private static int fewestPayments(int[] dues) {
            int unpaid = 0;
            for (int person = 0; person < dues.length; person++) {
                if (dues[person] != 0) {
                    unpaid |= 1 << person;
                }
            }
            return Integer.bitCount(unpaid) - mostSets(dues, unpaid);
        }

        /** Nobody whose due is not 0 is a set alone, so four people make two sets at most. */
        private static int mostSets(int[] dues, int unpaid) {
            if (unpaid == 0) {
                return 0;
            }
            for (int set = 1; set < unpaid; set++) {
                if (isWithin(set, unpaid) && sumOf(dues, set) == 0) {
                    return 2;
                }
            }
            return 1;
        }

        private static int sumOf(int[] dues, int set) {
            int sum = 0;
            for (int person = 0; person < dues.length; person++) {
                if (isIn(set, person)) {
                    sum += dues[person];
                }
            }
            return sum;
        }
    }

    /** What can be told of years that nobody saw. */
    private static final class Guesses {

        /** Whether a deed with those needs stood in just the told years in which it did. */
        private static boolean fits(int kind, int needs, int itself, int[] years, int n) {
            for (int k = 0; k < n && k < years.length; k++) {
                boolean stood = (years[k] & itself) != 0;
                if (Year.isMet(kind, needs, years[k]) != stood) {
                    return false;
                }
            }
            return true;
        }

        /** Whether the others among those that stood are just those that had to. */
        private static boolean explains(Year year, int stood, int others) {
            for (int deed = 0; deed < year.deeds; deed++) {
                if (isIn(others, deed) && year.wouldStand(deed, stood) != isIn(stood, deed)) {
                    return false;
                }
            }
            return true;
        }

        /** In how many parts the mean is told: four a deed. */
        private static long parts(int deeds) {
            return 1L << 2 * deeds;
        }

        /** By how many halvings the mean and its parts come to lowest terms. */
        private static int halvings(long mean, int deeds) {
            long both = mean | parts(deeds);
            int halvings = 0;
            while (halvings < 2 * MOST_DEEDS && (both >> halvings & 1) == 0) {
                halvings++;
            }
            return halvings;
        }

        /** The mean of the sum, if those of lesser numbers stand so and are worth so much; times 4 a deed left. */
        private static long mean(Year year, int deed, int stood, int sum) {
            if (deed >= year.deeds) {
                return sum;
            }
            int odds = year.wouldStand(deed, stood) ? year.odds[deed] : 0;
            long with = 0;
            if (odds > 0) {
                with = mean(year, deed + 1, stood | 1 << deed, sum + year.worthToAll(deed));
            }
            long without = 0;
            if (odds < FULL_ODDS) {
                without = mean(year, deed + 1, stood, sum);
            }
            return odds * with + (FULL_ODDS - odds) * without;
        }
    }

    /** The letters typed so far, and how they are read as a year. */
    private static final class Tape {
        private static final int KIND = 0, DAY = 1, MORE = 2;

        private final char[] letters = new char[TAPE_LENGTH];
        private int typed = 0;
        private int awaited = KIND;
        private int kind = PLAIN;

        private boolean add(char letter) {
            if (typed >= letters.length) {
                return false;
            }
            letters[typed] = letter;
            typed++;
            return true;
        }

        /** How many deeds are read; or a fault, and what was read is of no use. */
        private int readInto(Year year) {
            awaited = KIND;
            for (int place = 0; place < typed; place++) {
                char letter = letters[place];
                if (letter != ' ' && !takes(letter, year)) {
                    return FAULT - place;
                }
            }
            return awaited == MORE ? year.deeds : FAULT - typed;
        }

        private boolean takes(char letter, Year year) {
            switch (awaited) {
                case KIND: return takesKind(letter);
                case DAY: return takesDay(letter, year);
                default: return letter == ',' ? takesComma(year) : takesNeed(letter, year);
            }
        }

        private boolean takesKind(char letter) {
            switch (letter) {
                case 'p': kind = PLAIN; break;
                case 'a': kind = ANY; break;
                case 's': kind = SPITE; break;
                case 'h': kind = HABIT; break;
                default: return false;
            }
            awaited = DAY;
            return true;
        }

        private boolean takesDay(char letter, Year year) {
            awaited = MORE;
            int day = letter - 'A';
            return isDay(day) && year.add(kind, day, 0);
        }

        /** Behind the last deed that there can be, none may be announced. */
        private boolean takesComma(Year year) {
            awaited = KIND;
            return year.deeds < MOST_DEEDS;
        }

        private boolean takesNeed(char letter, Year year) {
            int deed = year.deeds - 1;
            int need = letter - 'a';
            if (!year.has(deed) || !year.has(need)) {
                return false;
            }
            if (!isIn(year.needable(deed, year.day[deed]) & ~year.needs[deed], need)) {
                return false;
            }
            year.needs[deed] |= 1 << need;
            return true;
        }
    }

    /** Rows of items that may be missing, each as its lane tells. */
    private static final class Sheets {
        private final int[] lane = new int[] {NOTHING, NOTHING, NOTHING, NOTHING};
        private final int[] size = new int[SHEETS];
        private final long[] items = new long[SHEETS * MOST_ITEMS];

        private boolean holds(int sheet) {
            return lane[sheet] != NOTHING;
        }

        /** What is wrong with taking n items from i on, 0: nothing. */
        private int faultOf(int sheet, int asLane, int i, int n) {
            if (!isSheet(sheet) || !isLane(asLane)) {
                return BAD;
            }
            if (!holds(sheet)) {
                return NULL;
            }
            if (lane[sheet] != asLane) {
                return CAST;
            }
            return reaches(sheet, i, n) ? 0 : INDEX;
        }

        private boolean reaches(int sheet, int i, int n) {
            return i >= 0 && n >= 0 && i <= size[sheet] && n <= size[sheet] - i;
        }

        private void begin(int sheet, int itsLane, int n) {
            lane[sheet] = itsLane;
            size[sheet] = n;
            for (int i = 0; i < MOST_ITEMS; i++) {
                items[sheet * MOST_ITEMS + i] = 0;
            }
        }

        private long at(int sheet, int i) {
            return items[sheet * MOST_ITEMS + i];
        }

        private void put(int sheet, int i, long v) {
            items[sheet * MOST_ITEMS + i] = lowest(lane[sheet], v);
        }

        private static long lowest(int lane, long v) {
            switch (lane) {
                case 0: return (byte) v;
                case 1: return (short) v;
                case 2: return (int) v;
                default: return v;
            }
        }

        private void move(int from, int i, int to, int j, int n) {
            System.arraycopy(items, from * MOST_ITEMS + i, items, to * MOST_ITEMS + j, n);
        }
    }
}

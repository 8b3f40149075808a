import java.util.List;

/** What the document's terms say of all calls alike: refusals, their order, the greatest and least numbers. */
public final class TermsEdgesTest {
    private static final Check CHECK = new Check("TermsEdgesTest");
    private static final long BAD = BackYear.BAD, NOT = BackYear.NOT, FULL = BackYear.FULL, NONE = BackYear.NONE,
        NULL = BackYear.NULL, CAST = BackYear.CAST, INDEX = BackYear.INDEX, SIZE = BackYear.SIZE, BAD_LESS = -100001;
    /** No refusal: the number can be any. */
    private static final long TAKEN = 1;
    private static final long[] LEAST = {Integer.MIN_VALUE, Integer.MIN_VALUE + 1};
    private static final long[] MOST = {Integer.MAX_VALUE, Integer.MAX_VALUE - 1};

    private TermsEdgesTest() {
    }

    private static void due(String call, long got, long want) {
        CHECK.due(call, got, want);
    }

    private static void constants() {
        CHECK.says("Terms", "BAD -1 (a number is not as told, there is no such thing), NOT -2 (as told), FULL -3, NONE -4 "
            + "(as told), CAST -12 (of SHEETS another LANE); what the machine finds: NULL -11, INDEX -13, SIZE -14");
        due("BAD", BackYear.BAD, -1);
        due("NOT", BackYear.NOT, -2);
        due("FULL", BackYear.FULL, -3);
        due("NONE", BackYear.NONE, -4);
        due("NULL", BackYear.NULL, -11);
        due("CAST", BackYear.CAST, -12);
        due("INDEX", BackYear.INDEX, -13);
        due("SIZE", BackYear.SIZE, -14);
    }

    /** Twelve deeds that all stand, four people, a row of 16 bytes on sheet 0, an image, half a tape. */
    private static BackYear full() {
        BackYear x = Check.of(4, "pL,pL,pK,pA,hB,aCd,pA,pA,pB,pB,hJ,pL");
        Check.worths(x, 0, -1, 1, 0, 0);
        x.sheet(0, 0, 16);
        x.image();
        x.type('p');
        return x;
    }

    /** One number of a call is the greatest or the least, all others are as told. */
    private static void far(String letters, long... want) {
        Call call = Call.all(letters).get(0);
        for (int k = 0; k < want.length; k++) {
            for (long[] fars : new long[][] {LEAST, MOST}) {
                for (long v : fars) {
                    long[] args = call.args().clone();
                    args[k] = v;
                    Call farCall = new Call(call.name(), args);
                    due(farCall.toString(), farCall.on(full()), want[k]);
                }
            }
        }
    }

    /** All numbers of a call are the greatest or the least. */
    private static void allFar(String name, int numbers, long want) {
        for (int way = 0; way < 1 << numbers; way++) {
            long[] args = new long[numbers];
            for (int k = 0; k < numbers; k++) {
                args[k] = (way >> k & 1) == 0 ? Integer.MIN_VALUE : Integer.MAX_VALUE;
            }
            Call call = new Call(name, args);
            due(call.toString(), call.on(full()), want);
            due(call + ", nothing yet", call.on(new BackYear()), want);
        }
    }

    private static void greatestAndLeast() {
        CHECK.says("Terms", "BAD -1 (a number is not as told, there is no such thing)");
        far("people 2", BAD);
        far("deed 0 0 0", BAD, BAD, BAD);
        far("told 0 0", BAD, BAD);
        far("set 0 0 0", BAD, BAD, BAD);
        far("last 0", BAD);
        far("type 65", BAD);
        far("count 0", BAD);
        far("right 0", BAD);
        far("bears 0", BAD);
        far("wanted 0 0", BAD, BAD);
        far("bargain 0 0 1 0", BAD, BAD, BAD, BAD);
        far("forgotten 0 0 0", BAD, BAD, BAD);
        far("comes 0 0", BAD, BAD);
        far("judged 0 0 0", BAD, BAD, INDEX);
        far("net 0 0 0 0 1 0", BAD, BAD, BAD, INDEX, BAD, BAD);
        far("film 0 0 0", BAD, BAD, INDEX);
        far("sheet 0 0 0", BAD, BAD);
        due("sheet(0, 0, least)", full().sheet(0, 0, Integer.MIN_VALUE), SIZE);
        due("sheet(0, 0, greatest)", full().sheet(0, 0, Integer.MAX_VALUE), BAD);
        far("drop 0", BAD);
        far("item 0 0 0 0", BAD, BAD, INDEX, TAKEN);
        due("item(0, 0, 0, least)", full().item(0, 0, 0, Long.MIN_VALUE), TAKEN);
        due("item(0, 0, 0, greatest)", full().item(0, 0, 0, Long.MAX_VALUE), TAKEN);
        far("copy 0 0 0 0 1", BAD, INDEX, BAD, INDEX, INDEX);
        int[] numbers = {1, 3, 2, 3, 1, 1, 1, 1, 1, 2, 4, 3, 2, 3, 6, 3, 3, 1, 5};
        String[] names = {"people", "deed", "told", "set", "last", "type", "count", "right", "bears", "wanted", "bargain",
            "forgotten", "comes", "judged", "net", "film", "sheet", "drop", "copy"};
        for (int call = 0; call < names.length; call++) {
            allFar(names[call], numbers[call], BAD);
        }
    }

    private static void lessBy100000() {
        CHECK.says("Terms", "Where a told thing may be below 0, refused ones are 100000 less (-100001 and so on).");
        far("worth 0 0 0", BAD_LESS, BAD_LESS, BAD_LESS);
        far("worthOf 0 0", BAD_LESS, BAD_LESS);
        far("value 0", BAD_LESS);
        far("best 0 0 0", BAD_LESS, BAD_LESS, BAD_LESS);
        far("turn 0", BAD_LESS);
        far("due 0", BAD_LESS);
        allFar("worth", 3, BAD_LESS);
        allFar("worthOf", 2, BAD_LESS);
        allFar("value", 1, BAD_LESS);
        allFar("best", 3, BAD_LESS);
        allFar("turn", 1, BAD_LESS);
        allFar("due", 1, BAD_LESS);
        BackYear x = full();
        due("worthOf(0, 0)", x.worthOf(0, 0), -1);
        due("worth(0, 0, -2)", x.worth(0, 0, -2), -1);
        x.worth(0, 0, -1);
        due("value(0)", x.value(0), -1);
        x.worth(0, 1, 0);
        due("value(-1)", x.value(-1), -1);
        due("best(0, 0, 0)", x.best(0, 0, 0), -1);
        x.worth(0, 1, 1);
        x.right(0);
        due("due(1)", x.due(1), -1);
        Check.backTo(x, 0);
        due("back()", x.back(), -1);
        due("back(), over already: NOT", x.back(), NOT - 100000);
    }

    /** Two refusals hold at once; the first of those that the call names is told. */
    private static void first(String state, BackYear x, String letters, long want) {
        due(state + ": " + letters, Call.all(letters).get(0).on(x), want);
    }

    private static void theFirstThatACallNames() {
        CHECK.says("Terms", "Answers below 0, of several the first that a call names");
        BackYear x = full();
        first("twelve deeds", x, "deed 4 0 0", BAD);
        first("twelve deeds", x, "deed 0 12 0", BAD);
        first("twelve deeds", x, "deed 0 0 1", BAD);
        first("twelve deeds", x, "deed 0 0 0", FULL);
        for (int letters = 1; letters < 80; letters++) {
            x.type(' ');
        }
        first("a full tape", x, "type 31", BAD);
        first("a full tape", x, "type 127", BAD);
        first("a full tape", x, "type 32", FULL);
        x.back();
        first("the day is over, no such deed", x, "right 12", BAD);
        first("the day is over", x, "right 0", NOT);
        first("one in common", x, "wanted 1 1", BAD);
        first("one in common, and none", x, "wanted 2048 2055", BAD);
        first("none", x, "wanted 1024 2055", NONE);
        first("one alike, and none", x, "bargain 3 0 0 0", BAD);
        first("none", x, "bargain 3 0 1 0", NONE);
        x.year();
        x.right(0);
        first("one alike, and it does not stand", x, "bargain 0 0 0 0", BAD);
        first("it does not stand, and none", x, "bargain 0 2 3 0", NOT);
        first("a told deed of that day, and none", x, "forgotten 11 1 1", BAD);
        first("none", x, "forgotten 11 0 1", NONE);
    }

    private static void theFirstOfRows() {
        CHECK.says("Terms", "what the machine finds: NULL -11, INDEX -13, SIZE -14 (NULL, CAST, INDEX, SIZE in this order");
        BackYear x = full();
        for (int i = 0; i < 16; i++) {
            x.item(0, 0, i, -2);
        }
        first("no such lane, no row", x, "judged 1 4 -1", BAD);
        first("no row, far off", x, "judged 1 0 -1", NULL);
        first("another lane, far off", x, "judged 0 1 -1", CAST);
        first("far off, and it can't be", x, "judged 0 0 5", INDEX);
        first("no such deed, no row", x, "net 12 1 1 -1 1 0", BAD);
        first("no row, far off", x, "net 0 1 1 -1 1 0", NULL);
        first("another lane, far off, no deeds", x, "net 0 0 1 16 1 1", CAST);
        first("far off, no deeds", x, "net 0 0 0 9 8 1", INDEX);
        first("no deeds, and none", x, "net 0 0 0 8 8 1", NOT);
        first("no such lane, no row", x, "film 1 4 -1", BAD);
        first("no row, far off", x, "film 1 0 -1", NULL);
        first("another lane, far off", x, "film 0 1 13", CAST);
        first("far off", x, "film 0 0 13", INDEX);
        first("no such lane, n below 0", x, "sheet 0 4 -1", BAD);
        first("n below 0", x, "sheet 0 0 -1", SIZE);
        first("no such sheet", x, "drop 4", BAD);
        first("no such lane, no row", x, "item 1 4 16 0", BAD);
        first("no row, far off", x, "item 1 0 16 0", NULL);
        first("another lane, far off", x, "item 0 1 16 0", CAST);
        first("far off", x, "item 0 0 16 0", INDEX);
        x.sheet(2, 2, 16);
        first("no such sheet, no row", x, "copy 1 0 4 0 1", BAD);
        first("no such sheet, no row", x, "copy 4 0 1 0 1", BAD);
        first("no row, far off", x, "copy 1 -1 2 -1 -1", NULL);
        first("no row there, far off", x, "copy 2 -1 1 -1 -1", NULL);
        first("another lane, far off", x, "copy 0 -1 2 17 -1", CAST);
        first("far off", x, "copy 0 0 0 0 17", INDEX);
    }

    private static void unchanged(BackYear x, String state, String letters) {
        List<Call> calls = Call.all(letters);
        int[] before = new int[7];
        for (int what = 0; what <= 6; what++) {
            before[what] = x.count(what);
        }
        for (Call call : calls) {
            CHECK.holds(state + ": " + call + " is refused", call.on(x) < 0);
            for (int what = 0; what <= 6; what++) {
                due(state + ", behind " + call + ": count(" + what + ")", x.count(what), before[what]);
            }
        }
    }

    /** GridTest looks at all that can be told; here is what an eye can follow. */
    private static void refusedChangesNothing() {
        CHECK.says("Terms", "What is refused changes nothing, but as told.");
        BackYear x = full();
        x.right(0);
        unchanged(x, "one righted", "people 0; people 5; deed 0 0 0; deed 4 0 0; last 4096; last -1; right 1; right 2; right 0; "
            + "right 12; right -1");
        Check.backTo(x, -1);
        unchanged(x, "the year is over", "right 2; right 3; right 12; back");
        BackYear y = new BackYear();
        unchanged(y, "nothing yet", "people 0; people 5; deed -1 0 0; deed 0 12 0; deed 0 0 1; last 1; right 0; restore; text");
        due("the first deed is 0 all the same", y.deed(0, 0, 0), 0);
    }

    public static void main(String[] args) {
        constants();
        greatestAndLeast();
        lessBy100000();
        theFirstThatACallNames();
        theFirstOfRows();
        refusedChangesNothing();
        CHECK.end();
    }
}

import java.util.ArrayList;
import java.util.LinkedHashMap;
import java.util.List;
import java.util.Map;

/**
 * Every call with every choice of numbers at and beyond the edges, on objects of several kinds: each
 * answer as the model's, and nothing else changed than the model changes; nothing at all by what is refused.
 */
public final class GridTest {
    private static final Check CHECK = new Check("GridTest");
    private static final long MIN = Integer.MIN_VALUE, MAX = Integer.MAX_VALUE;
    /** An object is good for so many calls; the last of them are the dump's. */
    private static final int CALLS = 512, OF_A_DUMP = 255;

    private static final long[] DEED = {MIN, -1, 0, 1, 4, 11, 12, 32, MAX};
    private static final long[] PERSON = {MIN, -2, -1, 0, 1, 2, 3, 4, 32, MAX};
    private static final long[] SET = {MIN, MIN | 1, -1, 0, 1, 2, 3, 4095, 4096, MAX};
    private static final long[] DAY = {MIN, -1, 0, 5, 11, 12, MAX};
    private static final long[] CHOICE = {MIN, -1, 0, 1, 2, MAX};
    private static final long[] LENGTH = {MIN, -1, 0, 1, 2, 4, 5, MAX};
    private static final long[] SHEET = {MIN, -1, 0, 1, 2, 3, 4, MAX};
    private static final long[] FEW_SHEETS = {-1, 0, 1, 2, 3, 4};
    private static final long[] PLACE = {MIN, -1, 0, 1, 4, 5, 12, 13, 15, 16, 17, MAX};
    private static final long[] FEW_PLACES = {MIN, -1, 0, 4, 12, 16, 17, MAX};
    private static final long[] VALUE = {Long.MIN_VALUE, -1, 0, 128, 255, 256, 4095, 32768, 65535, 1L << 31,
        (1L << 32) - 1, 1L << 32, Long.MAX_VALUE};

    private final String state;
    private final List<Call> setup;
    private final List<Long> untouched;
    /** So many calls are made on one object until it is looked whether they changed nothing. */
    private final int together;
    private final List<Call> made = new ArrayList<>();
    private BackYear x;
    private Model m;

    private GridTest(String state, List<Call> setup) {
        this.state = state;
        this.setup = setup;
        together = CALLS - OF_A_DUMP - setup.size();
        untouched = Dump.of(Model::new, setup);
        CHECK.holds(state + ": as the model's", untouched.equals(Dump.of(BackYear::new, setup)));
        begin();
    }

    private void begin() {
        made.clear();
        x = new BackYear();
        m = new Model();
        Call.each(x, setup);
        Call.each(m, setup);
    }

    /** The calls by their names, with what each of their numbers may be here. */
    private static Map<String, long[][]> grid() {
        Map<String, long[][]> grid = new LinkedHashMap<>();
        grid.put("people", new long[][] {{MIN, -1, 0, 1, 2, 3, 4, 5, 258, MAX}});
        grid.put("deed", new long[][] {{MIN, -1, 0, 1, 2, 3, 4, MAX}, DAY, SET});
        grid.put("told", new long[][] {DEED, {MIN, -1, 0, 1, 2, 3, 4, 5, 6, 7, MAX}});
        grid.put("set", new long[][] {DEED, CHOICE, {MIN, -1, 0, 1, 4, 5, 9, 10, MAX}});
        grid.put("worth", new long[][] {DEED, PERSON, {MIN, -10, -9, 0, 9, 10, MAX}});
        grid.put("worthOf", new long[][] {DEED, PERSON});
        grid.put("last", new long[][] {SET});
        grid.put("type", new long[][] {{MIN, -1, 0, 31, 32, 44, 65, 112, 126, 127, 368, 65648, MAX}});
        grid.put("count", new long[][] {{MIN, -1, 0, 1, 2, 3, 4, 5, 6, 7, MAX}});
        grid.put("right", new long[][] {DEED});
        grid.put("value", new long[][] {PERSON});
        grid.put("bears", new long[][] {DEED});
        grid.put("best", new long[][] {LENGTH, CHOICE, CHOICE});
        grid.put("wanted", new long[][] {SET, SET});
        grid.put("turn", new long[][] {PERSON});
        grid.put("bargain", new long[][] {DEED, PERSON, PERSON, CHOICE});
        grid.put("due", new long[][] {PERSON});
        grid.put("forgotten", new long[][] {DAY, SET, CHOICE});
        grid.put("comes", new long[][] {LENGTH, CHOICE});
        for (String name : new String[] {"text", "back", "year", "self", "payments", "upper", "lower", "image",
            "restore"}) {
            grid.put(name, new long[][] {});
        }
        grid.put("judged", new long[][] {SHEET, SHEET, PLACE});
        grid.put("net", new long[][] {{-1, 0, 1, 12}, FEW_SHEETS, FEW_SHEETS, FEW_PLACES, {-1, 0, 1, 8, 9, MAX},
            {-1, 0, 1, 2}});
        grid.put("film", new long[][] {SHEET, SHEET, PLACE});
        grid.put("sheet", new long[][] {SHEET, SHEET, {MIN, -1, 0, 1, 12, 16, 17, MAX}});
        grid.put("drop", new long[][] {SHEET});
        grid.put("item", new long[][] {FEW_SHEETS, FEW_SHEETS, FEW_PLACES, VALUE});
        grid.put("copy", new long[][] {FEW_SHEETS, FEW_PLACES, FEW_SHEETS, FEW_PLACES, {MIN, -1, 0, 1, 4, 16, MAX}});
        return grid;
    }

    private void each(String name, long[][] choices) {
        int ways = 1;
        for (long[] choice : choices) {
            ways *= choice.length;
        }
        for (int way = 0; way < ways; way++) {
            long[] args = new long[choices.length];
            int left = way;
            for (int i = 0; i < args.length; i++) {
                args[i] = choices[i][left % choices[i].length];
                left /= choices[i].length;
            }
            compare(new Call(name, args));
        }
    }

    private void compare(Call call) {
        long want = call.on(m);
        long got = call.on(x);
        if (got != want) {
            CHECK.due(state + ": " + call, got, want);
            begin();
            return;
        }
        CHECK.due(state + ": " + call.name(), got, want);
        made.add(call);
        if (changes(call.name(), want)) {
            List<Call> all = new ArrayList<>(setup);
            all.add(call);
            CHECK.holds(state + ": behind " + call + " all is as the model's",
                Dump.of(BackYear::new, all).equals(Dump.of(Model::new, all)));
            made.remove(made.size() - 1);
            look();
        } else if (made.size() == together) {
            look();
        }
    }

    private static boolean changes(String name, long answer) {
        switch (name) {
            case "worth": case "back": return answer > -100000;
            case "people": case "deed": case "set": case "last": case "type": case "right": case "year": case "image":
            case "restore": case "film": case "sheet": case "drop": case "item": case "copy": return answer >= 0;
            case "text": return true;
            default: return false;
        }
    }

    /** All calls made so far told something or were refused: neither changes anything. */
    private void look() {
        if (!made.isEmpty() && !untouched.equals(behind(made))) {
            for (Call call : made) {
                CHECK.holds(state + ": " + call + " changes nothing", untouched.equals(behind(List.of(call))));
            }
            CHECK.holds(state + ": the calls " + made + " change nothing", false);
        }
        begin();
    }

    private List<Long> behind(List<Call> more) {
        List<Call> all = new ArrayList<>(setup);
        all.addAll(more);
        return Dump.of(BackYear::new, all);
    }

    private static List<Call> join(String calls, String letters) {
        List<Call> all = Call.all(calls);
        all.addAll(Call.typed(letters));
        return all;
    }

    /** A year of twelve deeds, half walked, an image of another one, a row in each lane but one. */
    private static List<Call> full() {
        List<Call> all = join("deed 3 7 0; worth 0 1 5; image; people 4", "pL,sL,hKa,aAb,pA,sFde,hFf,aLc,pKac,sLh,hCdd");
        all.addAll(Call.all("text"));
        all.addAll(join("", "pA,pLa,sLb,hKa,aAa,pFe,sFef,hLc,pKd,aLcb,sBa,hLk"));
        all.addAll(Call.all("text; last 2184; right 1; back; right 3; back; image; back; set 3 0 9; set 1 0 7"));
        all.addAll(Call.all("set 0 1 3; set 4 1 0; set 11 1 1; last 2056"));
        for (int d = 0; d < 12; d++) {
            for (int p = d % 2; p < 4; p += 2) {
                all.add(new Call("worth", d, p, (d * 7 + p * 5) % 19 - 9));
            }
        }
        all.addAll(Call.all("sheet 0 0 16; sheet 2 2 12; sheet 3 3 0; item 0 0 0 -1; item 0 0 1 7; item 0 0 15 127"));
        all.addAll(Call.all("item 2 2 0 1; item 2 2 1 3; item 2 2 11 4095; item 2 2 4 -7"));
        all.addAll(Call.typed("pA,sB"));
        return all;
    }

    /** The year is over, the tape is full, rows of one lane, so that they can be copied to each other. */
    private static List<Call> over() {
        List<Call> all = join("people 3; year", "pA,hLa,sLb,pBa,aKbd");
        all.addAll(Call.all("text; worth 1 0 -9; worth 1 1 -2; worth 1 2 4; worth 0 2 9; worth 4 0 1; worth 4 1 1"));
        all.addAll(Call.all("set 1 0 5; right 1; year; right 1; back; right 4"));
        for (int day = 9; day >= -1; day--) {
            all.add(new Call("back"));
        }
        all.addAll(Call.all("sheet 0 1 16; sheet 1 1 5; sheet 2 1 12; sheet 3 3 1; item 0 1 4 4; item 0 1 5 31"));
        all.addAll(Call.all("item 0 1 12 -1; item 1 1 0 2; item 1 1 4 32767; item 2 1 0 -1; item 3 3 0 5"));
        all.addAll(Call.typed(" ".repeat(78) + "pA"));
        return all;
    }

    /** One deed, one of the people, one letter, rows of one item. */
    private static List<Call> one() {
        return join("people 1; deed 1 11 0; worth 0 0 -1; image; sheet 0 0 1; sheet 1 1 1; sheet 2 2 1; sheet 3 3 1", "p");
    }

    public static void main(String[] args) {
        Map<String, List<Call>> states = new LinkedHashMap<>();
        states.put("nothing yet", new ArrayList<>());
        states.put("one", one());
        states.put("full", full());
        states.put("over", over());
        for (Map.Entry<String, List<Call>> state : states.entrySet()) {
            CHECK.says("Terms, " + state.getKey(), "What is refused changes nothing, but as told.");
            GridTest test = new GridTest(state.getKey(), state.getValue());
            for (Map.Entry<String, long[][]> call : grid().entrySet()) {
                test.each(call.getKey(), call.getValue());
            }
            test.look();
        }
        CHECK.end();
    }
}

import java.util.ArrayList;
import java.util.List;
import java.util.function.Supplier;

/**
 * All that calls can tell of an object, as one row of answers. To find it out changes the object, so
 * each part is asked of a new one that is made by the same calls; none is used for more than 512 of them.
 */
final class Dump {
    private static final int DEEDS = 12, PEOPLE = 4, SHEETS = 4, LANES = 4, ITEMS = 16, HALF = 8;
    private static final List<Call> BITS = Call.typed(Rows.BITS);
    private static final long NOT_A_SET = -2;

    private final List<Long> told = new ArrayList<>();
    private Object x;

    private Dump() {
    }

    /** What is to be told of an object behind these calls. */
    static List<Long> of(Supplier<Object> made, List<Call> calls) {
        Dump dump = new Dump();
        dump.begin(made, calls);
        dump.year();
        dump.begin(made, calls);
        dump.ask("text");
        dump.year();
        dump.begin(made, calls);
        dump.ask("restore");
        dump.year();
        for (int sheet = 0; sheet < SHEETS; sheet++) {
            for (int from = 0; from < ITEMS; from += HALF) {
                dump.begin(made, calls);
                dump.sheet(sheet, from);
            }
        }
        return dump.told;
    }

    private void begin(Supplier<Object> made, List<Call> calls) {
        x = made.get();
        Call.each(x, calls);
    }

    private long ask(String name, long... args) {
        long answer = new Call(name, args).on(x);
        told.add(answer);
        return answer;
    }

    private void year() {
        for (int what = 0; what <= 6; what++) {
            ask("count", what);
        }
        for (int deed = 0; deed < DEEDS; deed++) {
            for (int what = 0; what <= 4; what++) {
                ask("told", deed, what);
            }
            for (int person = 0; person < PEOPLE; person++) {
                ask("worthOf", deed, person);
            }
        }
    }

    /** Its lane, from its lane half of its items, and how many there are. */
    private void sheet(int sheet, int from) {
        int its = -1;
        for (int lane = 0; lane < LANES; lane++) {
            its = ask("item", sheet, lane, -1, 0) == BackYear.INDEX ? lane : its;
        }
        new Call("text").on(x);
        Call.each(x, BITS);
        ask("text");
        for (int i = from; its >= 0 && i < from + HALF; i++) {
            item(sheet, its, i);
        }
        ask("drop", sheet);
    }

    private void item(int sheet, int lane, int i) {
        if (ask("net", 0, sheet, lane, i, 1, 0) == NOT_A_SET) {
            minus(sheet, lane, i);
            return;
        }
        for (int deed = 1; deed < DEEDS; deed++) {
            ask("net", deed, sheet, lane, i, 1, 0);
        }
    }

    /** Whether it is -1, since that alone is nothing in a walk. */
    private void minus(int sheet, int lane, int i) {
        int other = sheet == 0 ? 1 : 0;
        new Call("sheet", other, lane, DEEDS).on(x);
        for (int k = 1; k < DEEDS; k++) {
            new Call("item", other, lane, k, -1).on(x);
        }
        new Call("copy", sheet, i, other, 0, 1).on(x);
        ask("judged", other, lane, 0);
    }
}

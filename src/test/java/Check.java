import java.io.IOException;
import java.nio.file.Files;
import java.nio.file.Path;
import java.util.function.IntToLongFunction;

/** Counts and prints the answers that are not as due. */
final class Check {
    private static final Path DOCUMENT = Path.of("../shared/DOC.md");
    private final String name;
    private String document = "";
    private String said = "";
    private int asked = 0;
    private int wrong = 0;

    Check(String name) {
        this.name = name;
    }

    void due(String call, long got, long want) {
        asked++;
        if (got != want) {
            wrong++;
            System.out.println(name + ": " + said + call + " answered " + got + ", due is " + want);
        }
    }

    void holds(String what, boolean so) {
        due(what, so ? 1 : 0, 1);
    }

    /** The words of the document that all answers from here on are due by; they must stand in it. */
    void says(String where, String words) {
        said = "";
        holds("the document has «" + words + "»", document().contains(words));
        said = where + " «" + words + "»: ";
    }

    private String document() {
        if (document.isEmpty()) {
            try {
                document = Files.readString(DOCUMENT).replaceAll("\\s+", " ");
            } catch (IOException e) {
                throw new IllegalStateException(e);
            }
        }
        return document;
    }

    /** All numbers beyond low .. high are answered so: just beside, far off, and such as wrap around to it. */
    void beyond(String what, IntToLongFunction asked, long want, int low, int high) {
        for (int v : new int[] {low - 1, low - 2, high + 1, high + 2, -100001, 100001, Integer.MIN_VALUE,
            Integer.MIN_VALUE + 1, Integer.MAX_VALUE - 1, Integer.MAX_VALUE}) {
            due(what + ", " + v, asked.applyAsLong(v), want);
        }
        for (int far : new int[] {128, 256, 65536, 1 << 20, 1 << 30, Integer.MIN_VALUE}) {
            due(what + ", " + (low + far), asked.applyAsLong(low + far), want);
            due(what + ", " + (high + far), asked.applyAsLong(high + far), want);
            due(what + ", " + (low - far), asked.applyAsLong(low - far), want);
            due(what + ", " + (high - far), asked.applyAsLong(high - far), want);
        }
        for (int v = low; v <= high && high < 32 + low; v++) {
            due(what + ", " + (v + 32), asked.applyAsLong(v + 32), want);
            due(what + ", " + (v - 32), asked.applyAsLong(v - 32), want);
        }
    }

    /** All sets with others than the deeds 0 .. deeds - 1 are answered so. */
    void beyondSets(String what, IntToLongFunction asked, long want, int deeds) {
        int all = (1 << deeds) - 1;
        for (int one = deeds; one < 32; one++) {
            due(what + ", deed " + one + " alone", asked.applyAsLong(1 << one), want);
            due(what + ", deed " + one + " with all", asked.applyAsLong(1 << one | all), want);
        }
        for (int set : new int[] {-1, -2, ~all, Integer.MIN_VALUE, Integer.MAX_VALUE, 100001, -100001}) {
            due(what + ", " + set, asked.applyAsLong(set), want);
        }
    }

    void end() {
        System.out.println(name + ": " + asked + " answers, " + wrong + " wrong");
        if (wrong != 0 || asked == 0) {
            System.exit(1);
        }
    }

    /** Types the letters and takes them as a year: what text() answers. */
    static int text(BackYear x, String letters) {
        for (int i = 0; i < letters.length(); i++) {
            x.type(letters.charAt(i));
        }
        return x.text();
    }

    /** A new object with that year. */
    static BackYear of(int people, String letters) {
        BackYear x = new BackYear();
        x.people(people);
        if (text(x, letters) < 1) {
            throw new IllegalStateException("no year: " + letters);
        }
        return x;
    }

    /** WORTHS of one deed, to person 0, 1 and so on. */
    static void worths(BackYear x, int deed, int... to) {
        for (int person = 0; person < to.length; person++) {
            x.worth(deed, person, to[person]);
        }
    }

    /** What of deeds 0, 1 .. is the cost. */
    static void costs(BackYear x, int... costs) {
        for (int d = 0; d < costs.length; d++) {
            x.set(d, 0, costs[d]);
        }
    }

    /** Goes on to the day. */
    static void backTo(BackYear x, int day) {
        for (int left = 12; left > 0 && x.count(2) - 1 > day; left--) {
            x.back();
        }
    }

    /** Rights the deeds of the set, each on its day, and goes on until the year is over. */
    static void walk(BackYear x, int set) {
        for (int day = 11; day >= 0; day--) {
            for (int d = 0; d < 12; d++) {
                if ((set >> d & 1) != 0 && x.told(d, 1) == day) {
                    x.right(d);
                }
            }
            x.back();
        }
    }

    /** A new row with these items. */
    static void row(BackYear x, int sheet, int lane, long... items) {
        x.sheet(sheet, lane, items.length);
        for (int i = 0; i < items.length; i++) {
            x.item(sheet, lane, i, items[i]);
        }
    }
}

/** Counts and prints the answers that are not as due. */
final class Check {
    private final String name;
    private int asked = 0;
    private int wrong = 0;

    Check(String name) {
        this.name = name;
    }

    void due(String call, long got, long want) {
        asked++;
        if (got != want) {
            wrong++;
            System.out.println(name + ": " + call + " answered " + got + ", due is " + want);
        }
    }

    void holds(String what, boolean so) {
        due(what, so ? 1 : 0, 1);
    }

    void end() {
        System.out.println(name + ": " + asked + " answers, " + wrong + " wrong");
        if (wrong != 0 || asked == 0) {
            System.exit(1);
        }
    }

    /** Types the letters and takes them as a year: what text() answers. */
    static int text(BackYear x, String letters) {
        for (int i = 0; i < letters.length(); i++) {
            x.type(letters.charAt(i));
        }
        return x.text();
    }

    /** A new object with that year. */
    static BackYear of(int people, String letters) {
        BackYear x = new BackYear();
        x.people(people);
        text(x, letters);
        return x;
    }

    /** WORTHS of one deed, to person 0, 1 and so on. */
    static void worths(BackYear x, int deed, int... to) {
        for (int person = 0; person < to.length; person++) {
            x.worth(deed, person, to[person]);
        }
    }

    /** A new row with these items. */
    static void row(BackYear x, int sheet, int lane, long... items) {
        x.sheet(sheet, lane, items.length);
        for (int i = 0; i < items.length; i++) {
            x.item(sheet, lane, i, items[i]);
        }
    }
}

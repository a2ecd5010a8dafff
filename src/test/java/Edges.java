/** What the tests by the document's words have in common. */
abstract class Edges {
    static final int NONE = BentScreens.NONE;
    static final int MAX = Integer.MAX_VALUE;
    static final int MIN = Integer.MIN_VALUE;
    static final int NO_STRETCH = -2000000000;

    private final Ledger ledger;

    Edges(Ledger ledger) {
        this.ledger = ledger;
    }

    abstract void run();

    void section(String name) {
        ledger.section(name);
    }

    void says(String words) {
        ledger.says(words);
    }

    void due(String what, long got, long want) {
        ledger.due(what, got, want);
    }

    void due(String what, boolean got, boolean want) {
        ledger.due(what, got, want);
    }

    void alike(String what, int[] got, int[] want) {
        ledger.alike(what, got, want);
    }

    static BentScreens film(String text) {
        return Texts.withFilm(text);
    }

    /** An object without a film whose tape is this text. */
    static BentScreens tape(String text) {
        BentScreens x = new BentScreens();
        Texts.put(x, text);
        return x;
    }

    private static int linesOf(String text) {
        return (int) text.chars().filter(c -> c == ';').count();
    }

    /** A FILM that has no FAULT. */
    void taken(String text) {
        BentScreens x = tape(text);
        due("lines of " + text, x.film(), linesOf(text));
        due("fault of " + text, x.fault(0), 0);
        due("place in " + text, x.fault(1), NONE);
    }

    /** A FILM that has this FAULT at this place. */
    void faulty(String text, int fault, int place) {
        BentScreens x = tape(text);
        due("lines of " + text, x.film(), NONE);
        due("fault of " + text, x.fault(0), fault);
        due("place in " + text, x.fault(1), place);
    }

    /** RULES that have no FAULT. */
    void takenRules(String text) {
        BentScreens x = tape(text);
        due("lines of " + text, x.rules(), linesOf(text));
        due("fault of " + text, x.fault(0), 0);
        due("place in " + text, x.fault(1), NONE);
    }

    /** RULES that have this FAULT at this place. */
    void faultyRules(String text, int fault, int place) {
        BentScreens x = tape(text);
        due("lines of " + text, x.rules(), NONE);
        due("fault of " + text, x.fault(0), fault);
        due("place in " + text, x.fault(1), place);
    }

    /** Both ends of what a NUMBER of a FILM may be, and what lies beside them. */
    void range(String before, int least, int most, String after) {
        int place = before.length();
        taken(before + least + after);
        taken(before + most + after);
        if (least > 0) {
            faulty(before + (least - 1) + after, 2, place);
            faulty(before + "0000" + after, 2, place);
        }
        if (most < 9999) {
            faulty(before + (most + 1) + after, 2, place);
            faulty(before + 9999 + after, 2, place);
        }
        faulty(before + 10000 + after, 1, place);
        faulty(before + "-1" + after, 1, place);
    }
}

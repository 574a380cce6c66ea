/** What the tests check with; a test class takes these by extending it. */
public abstract class Checks {
    static final int NONE = -99;
    static final Class<?> INDEX = IndexOutOfBoundsException.class;
    static final Class<?> ARGUMENT = IllegalArgumentException.class;
    static final Class<?> STATE = IllegalStateException.class;
    private static String sentence = "";
    private static int sentences = 0;
    private static int checks = 0;
    private static int wrong = 0;

    interface Call {
        long answer();
    }

    interface CallOn {
        long answer(CheckedHall h);
    }

    /** Brings a new object to a state. */
    interface Recipe {
        void make(CheckedHall h);
    }

    /** What the next checks are for: a sentence of the document, or a promise. */
    static void says(String words) {
        sentence = words;
        sentences++;
    }

    private static void complain(String what) {
        wrong++;
        System.out.println("[" + sentence + "] " + what);
    }

    static void is(String what, long got, long due) {
        checks++;
        if (got != due) complain(what + " is " + got + ", due is " + due);
    }

    /** Checks the answer of the last call. */
    static void is(long got, long due) {
        is(CheckedHall.lastCall, got, due);
    }

    static void holds(String what, boolean does) {
        checks++;
        if (!does) complain(what + " does not hold");
    }

    static void same(String what, String got, String due) {
        checks++;
        if (!got.equals(due)) complain(what + " is [" + got + "], due is [" + due + "]");
    }

    static String thrownBy(Call call) {
        try {
            return "nothing, but answers " + call.answer();
        } catch (RuntimeException e) {
            return e.getClass().getName();
        }
    }

    static void fails(String what, Class<?> due, Call call) {
        checks++;
        String got = thrownBy(call);
        if (!got.equals(due.getName())) complain(what + " throws " + got + ", due is " + due.getName());
    }

    static void fails(Class<?> due, Call call) {
        checks++;
        String got = thrownBy(call);
        if (!got.equals(due.getName())) complain(CheckedHall.lastCall + " throws " + got + ", due is " + due.getName());
    }

    /** Checks that a call throws this, and leaves all as it was in an object made the same way without the call. */
    static void refused(Class<?> due, Recipe recipe, CallOn call) {
        leavesAll(recipe, h -> {
            fails(due, () -> call.answer(h));
            return 0;
        });
    }

    /** Checks that a call leaves state, remembered states, text and save slots as they are without it. */
    static void leavesAll(Recipe recipe, CallOn call) {
        for (int look = 0; look <= 4; look++) leaves(recipe, call, look);
    }

    static final int STATE_ITSELF = 0;
    static final int TEXT = 1;
    static final int REMEMBERED = 2;
    static final int SLOT_0 = 3;
    static final int SLOT_1 = 4;

    /** Checks one part of what an object holds; each look uses up its objects. */
    static void leaves(Recipe recipe, CallOn call, int look) {
        CheckedHall touched = new CheckedHall();
        recipe.make(touched);
        call.answer(touched);
        String told = CheckedHall.lastCall;
        CheckedHall untouched = new CheckedHall();
        recipe.make(untouched);
        same("look " + look + " behind " + told, look(touched, look), look(untouched, look));
    }

    private static String look(CheckedHall h, int look) {
        switch (look) {
            case STATE_ITSELF: return h.all() + "| " + h.foresight();
            case TEXT: return h.errorPosition() + " " + thrownBy(h::load) + " " + h.all() + h.clearText();
            case REMEMBERED: return remembered(h);
            default: return slot(h, look - SLOT_0);
        }
    }

    private static String slot(CheckedHall h, int slot) {
        String got = thrownBy(() -> h.restore(slot));
        // What is left behind a refused restore is no matter of the slot.
        return got.equals(STATE.getName()) ? got : got + " " + h.all();
    }

    private static String remembered(CheckedHall h) {
        StringBuilder s = new StringBuilder();
        for (int i = 0; i < 16; i++) {
            for (int w = 0; w <= 5; w++) s.append(h.about(w)).append(' ');
            for (int g = h.about(2) - 1; g >= 0; g--) s.append(h.owes(g)).append(' ');
            if (h.about(3) > 0) s.append(h.booking(h.about(3) - 1, 2)).append(' ');
            s.append(thrownBy(h::undo)).append("; ");
        }
        return s.toString();
    }

    static void end(String name) {
        System.out.println(name + ": " + sentences + " sentences, " + checks + " checks, " + wrong + " wrong");
        if (wrong != 0) System.exit(1);
    }
}

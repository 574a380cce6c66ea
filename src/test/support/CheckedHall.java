/**
 * A HallHeating whose calls are counted and told. A test that makes more calls than the document promises answers
 * for is stopped, and a check can say which call it looked at.
 */
public final class CheckedHall {
    static final int CALL_LIMIT = 512;
    static String lastCall = "no call";
    private final HallHeating hall = new HallHeating();
    private int calls = 0;

    private void tell(String name, Object... arguments) {
        calls++;
        StringBuilder s = new StringBuilder(name).append('(');
        for (int i = 0; i < arguments.length; i++) s.append(i == 0 ? "" : ", ").append(arguments[i]);
        lastCall = s.append(") as call ").append(calls).toString();
        if (calls > CALL_LIMIT) throw new AssertionError("nothing is promised for " + lastCall);
    }

    int calls() { return calls; }

    int append(int c) { tell("append", c); return hall.append(c); }
    int clearText() { tell("clearText"); return hall.clearText(); }
    int errorPosition() { tell("errorPosition"); return hall.errorPosition(); }
    int load() { tell("load"); return hall.load(); }
    int about(int what) { tell("about", what); return hall.about(what); }
    int room(int r, int what) { tell("room", r, what); return hall.room(r, what); }
    int owes(int g) { tell("owes", g); return hall.owes(g); }
    int booking(int b, int what) { tell("booking", b, what); return hall.booking(b, what); }
    int addRoom(int size, int loss, int power, int t) { tell("addRoom", size, loss, power, t); return hall.addRoom(size, loss, power, t); }
    int addGroup() { tell("addGroup"); return hall.addGroup(); }
    int book(int r, int g, int first, int hours, int t) { tell("book", r, g, first, hours, t); return hall.book(r, g, first, hours, t); }
    int cancel(int b) { tell("cancel", b); return hall.cancel(b); }
    int prove(int r, boolean is) { tell("prove", r, is); return hall.prove(r, is); }
    int outside(int t) { tell("outside", t); return hall.outside(t); }
    int pay(int g) { tell("pay", g); return hall.pay(g); }
    int pass(int hours) { tell("pass", hours); return hall.pass(hours); }
    int undo() { tell("undo"); return hall.undo(); }
    int later(int r, int hours) { tell("later", r, hours); return hall.later(r, hours); }
    int begins(int b) { tell("begins", b); return hall.begins(b); }
    int cost(int r, int g, int first, int hours, int t) { tell("cost", r, g, first, hours, t); return hall.cost(r, g, first, hours, t); }
    int willOwe(int g) { tell("willOwe", g); return hall.willOwe(g); }
    int coldest() { tell("coldest"); return hall.coldest(); }
    int runScript(int n, long script) { tell("runScript", n, script); return hall.runScript(n, script); }
    int simulate(long seed, int m) { tell("simulate", seed, m); return hall.simulate(seed, m); }
    int save(int slot) { tell("save", slot); return hall.save(slot); }
    int restore(int slot) { tell("restore", slot); return hall.restore(slot); }

    /** Replaces the text. */
    void type(String text) {
        clearText();
        for (int i = 0; i < text.length(); i++) append(text.charAt(i));
    }

    static CheckedHall typed(String text) {
        CheckedHall h = new CheckedHall();
        for (int i = 0; i < text.length(); i++) h.append(text.charAt(i));
        return h;
    }

    static CheckedHall loaded(String text) {
        CheckedHall h = typed(text);
        h.load();
        return h;
    }

    /** Lets hours go by until the hour of now is this one. */
    void passTo(int hour) {
        while (about(0) < hour) pass(Math.min(48, hour - about(0)));
    }

    /** All that is told of the state itself, as one text. */
    String all() {
        StringBuilder s = new StringBuilder();
        for (int w = 0; w <= 9; w++) s.append(about(w)).append(' ');
        int rooms = about(1), groups = about(2), bookings = about(3);
        for (int r = 0; r < rooms; r++) for (int w = 0; w <= 6; w++) s.append(room(r, w)).append(' ');
        for (int g = 0; g < groups; g++) s.append(owes(g)).append(' ');
        for (int b = 0; b < bookings; b++) for (int w = 0; w <= 9; w++) s.append(booking(b, w)).append(' ');
        return s.toString();
    }

    /** What would be, as one text. */
    String foresight() {
        StringBuilder s = new StringBuilder();
        for (int r = about(1) - 1; r >= 0; r--) s.append(later(r, 48)).append(' ');
        for (int g = about(2) - 1; g >= 0; g--) s.append(willOwe(g)).append(' ');
        for (int b = about(3) - 1; b >= 0; b--) s.append(begins(b)).append(' ');
        return s.append(coldest()).toString();
    }
}

/** The edges that the document names in TEXT and in the promises 1 to 5; what it says stands in says(..). */
public final class TextEdgeTest extends Checks {
    private static final String DIGITS = "0123456789";
    /** 120 characters: 4 rooms, 5 groups, 9 bookings. */
    private static final String FULL = "Hr12304r56730r99900r11115ggggg" + "b000000220b010020818b320140225b230060322b140060112"
        + "b100401225b200501225b311991212b021000113";
    /** The least room, and a group. */
    private static final String LEAST = "Hr11100g";

    public static void main(String[] args) {
        calls512();
        newObject();
        append();
        clearText();
        textsEnd();
        signsAtEachPlace();
        numbersOfParts();
        bookingsTogether();
        load();
        loadRefused();
        end("TextEdgeTest");
    }

    private static void calls512() {
        says("An object is used for at most 512 calls after it has been made");
        CheckedHall h = new CheckedHall();
        h.addRoom(1, 9, 1, 10);
        h.addGroup();
        for (int i = 0; h.calls() < 510; i++) is(h.outside(i % 40 - 20), i == 0 ? 5 : (i - 1) % 40 - 20);
        is(h.undo(), 13);
        is(h.about(1), 1);
        is("calls", h.calls(), 512);
        CheckedHall asked = CheckedHall.loaded("Hr99930r99930r99930r99930gb000000125b000300825b101990125");
        int m = 0;
        while (asked.calls() < 512) m = asked.simulate(5, 99);
        is(m, CheckedHall.loaded("Hr99930r99930r99930r99930gb000000125b000300825b101990125").simulate(5, 99));
    }

    private static void newObject() {
        says("Creates a hall without rooms and groups.");
        CheckedHall h = new CheckedHall();
        is(h.about(1), 0);
        is(h.about(2), 0);
        fails(INDEX, () -> h.room(0, 0));
        fails(INDEX, () -> h.later(0, 0));
        fails(INDEX, () -> h.owes(0));
        fails(INDEX, () -> h.pay(0));
        fails(INDEX, () -> h.willOwe(0));
        fails(INDEX, () -> h.book(0, 0, 0, 1, 12));
        fails(INDEX, () -> h.cost(0, 0, 0, 1, 12));
        fails(INDEX, () -> h.prove(0, true));
        says("There are at most 12 bookings: none of a new object");
        is(h.about(3), 0);
        fails(INDEX, () -> h.booking(0, 0));
        fails(INDEX, () -> h.begins(0));
        fails(INDEX, () -> h.cancel(0));
        says("The temperature outside is from -20 to 25, at first 5.");
        is(h.about(4), 5);
        is(h.outside(0), 5);
        h.undo();
        says("the hour that goes by next is the hour of now, at first 0.");
        is(h.about(0), 0);
        is(h.save(0), 0);
        says("A new object: nothing is counted or charged");
        for (int w = 5; w <= 9; w++) is(h.about(w), 0);
        is(h.pass(48), 0);
        for (int w = 5; w <= 9; w++) is(h.about(w), 0);
        says("A new object: nothing is remembered or saved, and the text is empty");
        CheckedHall other = new CheckedHall();
        fails(STATE, other::undo);
        fails(STATE, () -> other.restore(0));
        fails(STATE, () -> other.restore(1));
        is(other.errorPosition(), 0);
        is(other.clearText(), 0);
        says("two objects have nothing together");
        CheckedHall one = new CheckedHall();
        one.type("Hg");
        one.load();
        one.save(0);
        one.outside(1);
        CheckedHall two = new CheckedHall();
        is(two.clearText(), 0);
        is(two.about(2), 0);
        is(two.about(4), 5);
        fails(STATE, () -> two.restore(0));
        fails(STATE, two::undo);
    }

    private static void append() {
        says("c: character code, 0 to 255");
        CheckedHall all = new CheckedHall();
        for (int c = 0; c <= 255; c++) {
            is(all.append(c), 1);
            is(all.errorPosition(), c == 'H' ? NONE : 0);
            all.clearText();
            if (all.calls() > 500) all = new CheckedHall();
        }
        CheckedHall h = new CheckedHall();
        h.append('H');
        fails(ARGUMENT, () -> h.append(-1));
        fails(ARGUMENT, () -> h.append(256));
        fails(ARGUMENT, () -> h.append(256 + 'g'));
        fails(ARGUMENT, () -> h.append(Integer.MIN_VALUE));
        fails(ARGUMENT, () -> h.append(Integer.MAX_VALUE));
        is(h.errorPosition(), NONE);
        says("append returns the new length of the text.");
        for (int i = 2; i <= 120; i++) is(h.append('x'), i);
        says("IllegalStateException if the text already has 120 characters");
        fails(STATE, () -> h.append('g'));
        fails(STATE, () -> h.append(0));
        fails(STATE, () -> h.append(255));
        says("append: IllegalArgumentException is named ahead of IllegalStateException");
        fails(ARGUMENT, () -> h.append(-1));
        fails(ARGUMENT, () -> h.append(256));
        is(h.clearText(), 120);
        is(h.append('H'), 1);
        says("append that is refused changes nothing: the text neither");
        Recipe full = x -> {
            x.type(FULL);
            x.load();
            x.save(0);
            x.pass(3);
        };
        for (int c : new int[] {-1, 256, Integer.MIN_VALUE, Integer.MAX_VALUE}) {
            refused(ARGUMENT, full, x -> x.append(c));
            refused(ARGUMENT, x -> x.type("H"), x -> x.append(c));
        }
        for (int c : new int[] {0, 'g', 255}) refused(STATE, full, x -> x.append(c));
        says("append, refused with 119 characters in the text, leaves the last place");
        CheckedHall last = CheckedHall.typed(FULL.substring(0, 119));
        fails(ARGUMENT, () -> last.append(256));
        is(last.append('3'), 120);
        is(last.errorPosition(), NONE);
    }

    private static void clearText() {
        says("clearText returns the previous length of the text.");
        CheckedHall h = new CheckedHall();
        is(h.clearText(), 0);
        is(h.clearText(), 0);
        h.append('H');
        is(h.clearText(), 1);
        is(h.clearText(), 0);
        for (int i = 0; i < 120; i++) h.append('g');
        is(h.clearText(), 120);
        is(h.clearText(), 0);
        says("clearText empties the text buffer.");
        is(h.errorPosition(), 0);
        fails(STATE, h::load);
        for (int i = 0; i < 120; i++) is(h.append(i == 0 ? 'H' : 'z'), i + 1);
        is(h.errorPosition(), 1);
        says("a text behind a longer one ends where it ends");
        h.clearText();
        h.append('H');
        is(h.errorPosition(), NONE);
        is(h.load(), 0);
    }

    private static void errorAt(String text, int due) {
        CheckedHall h = CheckedHall.typed(text);
        is("errorPosition of " + text, h.errorPosition(), due);
        if (due != NONE) fails("load of " + text, STATE, h::load);
        else holds("load of " + text, h.load() >= 0);
        is("clearText of " + text, h.clearText(), text.length());
    }

    private static void textsEnd() {
        says("if the text ends too soon, it is the length of the text.");
        errorAt("", 0);
        for (int i = 1; i <= 120; i++) {
            String part = FULL.substring(0, i);
            boolean whole = i == 1 || i == 7 || i == 13 || i == 19 || i >= 25 && i <= 30 || i > 30 && i % 10 == 0;
            errorAt(part, whole ? NONE : i);
        }
        for (int i = 1; i <= 4; i++) errorAt("Ho-20".substring(0, 1 + i), i == 4 ? NONE : 1 + i);
        for (int i = 1; i <= 4; i++) errorAt("Ho+25".substring(0, 1 + i), i == 4 ? NONE : 1 + i);
        says("a text of 120 characters that ends too soon, and one with its error at the last of them");
        errorAt(LEAST + "gggggo+00" + "b000000112b000010112b000020112b000030112b000040112b000050112b000060112b000070112b000080112" + "o+05o+05o+00b", 120);
        errorAt(LEAST + "gggggo+00" + "b000000112b000010112b000020112b000030112b000040112b000050112b000060112b000070112b000080112" + "o+05o+05o+00x", 119);
        errorAt(FULL.substring(0, 119) + ":", 119);
    }

    /** Tries all 256 characters behind a text: those that make it a hall, those that do not yet, and all others. */
    private static void behind(String text, String toHall, String onTheWay) {
        CheckedHall h = CheckedHall.typed(text);
        for (int c = 0; c <= 255; c++) {
            if (h.calls() + 3 + text.length() > CheckedHall.CALL_LIMIT) h = CheckedHall.typed(text);
            h.append(c);
            int due = toHall.indexOf(c) >= 0 ? NONE : text.length() + (onTheWay.indexOf(c) >= 0 ? 1 : 0);
            is("errorPosition of " + text + " and the character " + c, h.errorPosition(), due);
            h.type(text);
        }
    }

    private static void signsAtEachPlace() {
        says("A hall is the letter H, and then any number of parts");
        behind("", "H", "");
        says("A b may stand wherever a room and a group were told ahead.");
        behind("H", "g", "ro");
        behind("Hr11100", "g", "ro");
        behind("Hg", "g", "ro");
        behind("Hgr11100", "g", "rob");
        behind("Hr11100g", "g", "rob");
        behind("Hr11100go-20", "g", "rob");
        says("the letter r, a digit for the size, one for the loss and one for the power of a room (1 to 9 each)");
        behind("Hr", "", "123456789");
        behind("Hr1", "", "123456789");
        behind("Hr99", "", "123456789");
        says("two digits for its temperature (00 to 30)");
        behind("Hr111", "", "0123");
        behind("Hr9990", DIGITS, "");
        behind("Hr9992", DIGITS, "");
        behind("Hr9993", "0", "");
        behind("Hr11130", "g", "ro");
        says("the letter o, a sign + or -, and two digits (00 to 25 behind +, 01 to 20 behind -)");
        behind("Ho", "", "+-");
        behind("Ho+", "", "012");
        behind("Ho+0", DIGITS, "");
        behind("Ho+1", DIGITS, "");
        behind("Ho+2", "012345", "");
        behind("Ho-", "", "012");
        behind("Ho-0", "123456789", "");
        behind("Ho-1", DIGITS, "");
        behind("Ho-2", "0", "");
        behind("Ho+25", "g", "ro");
        behind("Ho-01", "g", "ro");
        says("a digit for a room and one for a group that were told ahead");
        behind("Hr11100gb", "", "0");
        behind("Hr11100gr11100b", "", "01");
        behind("Hr11100gr11100r11100r11100b", "", "0123");
        behind("Hr11100gr11100b1", "", "0");
        behind("Hr11100ggb0", "", "01");
        behind("Hr11100ggggggb0", "", "012345");
        says("three digits for the first hour (000 to 199)");
        behind(LEAST + "b00", "", "01");
        behind(LEAST + "b000", "", DIGITS);
        behind(LEAST + "b0000", "", DIGITS);
        behind(LEAST + "b001", "", DIGITS);
        behind(LEAST + "b0019", "", DIGITS);
        says("two for the hours (01 to 12)");
        behind(LEAST + "b00199", "", "01");
        behind(LEAST + "b001990", "", "123456789");
        behind(LEAST + "b001991", "", "012");
        says("two for the wanted temperature (12 to 25)");
        behind(LEAST + "b0000001", "", "12");
        behind(LEAST + "b00000011", "23456789", "");
        behind(LEAST + "b00199122", "012345", "");
        behind(LEAST + "b001991225", "g", "rob");
    }

    private static void numbersOfParts() {
        String four = "Hr11100r11100r11100r11100";
        says("the letter r .. at most 4 of these");
        behind("Hr11100r11100r11100", "g", "ro");
        behind(four, "g", "o");
        behind(four + "g", "g", "ob");
        says("the letter g for a group, at most 6 of these");
        behind("Hggggg", "g", "ro");
        behind("Hgggggg", "", "ro");
        behind("Hr11100gggggg", "", "rob");
        behind(four + "gggggg", "", "ob");
        says("the letter o: any number of parts");
        StringBuilder many = new StringBuilder("H");
        for (int i = 0; i < 29; i++) many.append("o+05");
        behind(many.toString(), "g", "ro");
        errorAt(many + "ggg", NONE);
        says("the letter b .. at most 12 of these (120 characters hold no more than 11)");
        StringBuilder eleven = new StringBuilder(LEAST);
        for (int i = 0; i < 11; i++) eleven.append("b000").append(i < 10 ? "0" : "").append(i).append("0112");
        behind(eleven.toString(), "g", "rob");
        errorAt(eleven.toString(), NONE);
        errorAt(eleven + "b0", 120);
        errorAt(eleven + "b1", 119);
        is(CheckedHall.loaded(eleven.toString()).about(3), 11);
    }

    private static void bookingsTogether() {
        String b = LEAST + "b000100312";
        says("none of which has an hour together with one of the same room told ahead: if it has, .. the index of its b");
        errorAt(b + "b000070312", NONE);
        errorAt(b + "b000080312", 18);
        errorAt(b + "b000090112", NONE);
        errorAt(b + "b000090212", 18);
        errorAt(b + "b000090512", 18);
        errorAt(b + "b000100112", 18);
        errorAt(b + "b000100312", 18);
        errorAt(b + "b000110112", 18);
        errorAt(b + "b000120112", 18);
        errorAt(b + "b000121212", 18);
        errorAt(b + "b000130112", NONE);
        errorAt(b + "b000131225", NONE);
        errorAt(LEAST + "b001880112b001991225b001870112", NONE);
        errorAt(LEAST + "b001881212b001991225", 18);
        errorAt(LEAST + "b001991225b001881212", 18);
        errorAt(LEAST + "b001991225b001871212", NONE);
        errorAt(LEAST + "b000000112b000200112b000400112b000200112", 38);
        errorAt(LEAST + "gb000000112b010000112", 19);
        says("this is seen behind its last digit");
        errorAt(b + "b00010031", 27);
        errorAt(b + "b000100311", 27);
        errorAt(b + "b00010031r", 27);
        errorAt(b + "b0001003", 26);
        errorAt(b + "b00010030", 26);
        errorAt(b + "b000100326", 27);
        errorAt(b + "b000100312x", 18);
        errorAt(b + "b000100312b", 18);
        says("one of the same room told ahead: another room may have the same hours");
        errorAt(LEAST + "r11100b000100312b100100312", NONE);
        errorAt(LEAST + "r11100b000100312b100100312b100120112", 34);
    }

    private static void load() {
        says("load returns the number of rooms.");
        is(CheckedHall.typed("H").load(), 0);
        is(CheckedHall.typed("Hr11100").load(), 1);
        CheckedHall full = CheckedHall.typed(FULL);
        is(full.load(), 4);
        says("Replaces everything by the hall of the text, ahead of the hour 0.");
        is(full.about(0), 0);
        is(full.about(2), 5);
        is(full.about(3), 9);
        is(full.about(4), 5);
        int[][] rooms = {{1, 2, 3, 4}, {5, 6, 7, 30}, {9, 9, 9, 0}, {1, 1, 1, 15}};
        for (int r = 0; r < 4; r++) for (int w = 0; w < 4; w++) is(full.room(r, w), rooms[r][w]);
        int[][] bookings = {{0, 0, 0, 2, 20}, {0, 1, 2, 8, 18}, {3, 2, 14, 2, 25}, {2, 3, 6, 3, 22}, {1, 4, 6, 1, 12},
            {1, 0, 40, 12, 25}, {2, 0, 50, 12, 25}, {3, 1, 199, 12, 12}, {0, 2, 100, 1, 13}};
        for (int b = 0; b < 9; b++) for (int w = 0; w <= 9; w++) is(full.booking(b, w), w < 5 ? bookings[b][w] : 0);
        CheckedHall used = used();
        used.type("H");
        is(used.load(), 0);
        same("all", used.all(), "0 0 0 0 5 0 0 0 0 0 ");
        says("load: what was there before does not come back with new rooms, groups and bookings");
        used.addRoom(1, 1, 1, 12);
        used.addGroup();
        used.addGroup();
        used.book(0, 0, 1, 1, 12);
        same("all", used.all(), "0 1 2 1 5 0 0 0 0 0 1 1 1 12 -99 0 -99 0 0 0 0 1 1 12 0 0 0 0 0 ");
        says("the temperature outside, .. at first 5, also in a text without o");
        CheckedHall out = CheckedHall.loaded("Ho-20");
        is(out.about(4), -20);
        out.type("Ho+25");
        out.load();
        is(out.about(4), 25);
        out.type("Ho+00");
        out.load();
        is(out.about(4), 0);
        out.type("Hg");
        out.load();
        is(out.about(4), 5);
        says("Forgets all remembered states");
        CheckedHall h = used();
        h.load();
        fails(STATE, h::undo);
        h.outside(7);
        is(h.undo(), 0);
        is(h.about(4), -10);
        fails(STATE, h::undo);
        says("and empties both save slots.");
        CheckedHall slots = used();
        slots.load();
        fails(STATE, () -> slots.restore(0));
        fails(STATE, () -> slots.restore(1));
        slots.save(1);
        fails(STATE, () -> slots.restore(0));
        is(slots.restore(1), 0);
        says("Keeps the text.");
        CheckedHall kept = CheckedHall.typed(FULL);
        kept.load();
        is(kept.load(), 4);
        fails(STATE, () -> kept.append('g'));
        is(kept.clearText(), 120);
    }

    /** An object that has been used for much; its text is a hall. */
    private static CheckedHall used() {
        CheckedHall h = CheckedHall.loaded("Hr11100r22210ggo-10b000000325b110010325");
        h.save(0);
        h.pass(2);
        h.prove(0, true);
        h.prove(1, true);
        h.pass(1);
        h.prove(1, true);
        h.save(1);
        return h;
    }

    private static void loadRefused() {
        says("IllegalStateException if the text is not a hall; a call that throws an exception changes nothing");
        String[] wrong = {"", "h", "Hx", "Hr1110", "Ho-00", "Hr11100gb00000011", "Hr11100r11100gb000000112b100000112b000000112"};
        for (String text : wrong) {
            refused(STATE, h -> {
                h.type("Hr22210ggo-10b000000325b010040112");
                h.load();
                h.save(0);
                h.pass(1);
                h.prove(0, true);
                h.pay(0);
                h.type(text);
            }, CheckedHall::load);
        }
        says("errorPosition changes nothing");
        leavesAll(h -> {
            h.type(FULL);
            h.load();
            h.save(1);
            h.pass(5);
            h.outside(-1);
        }, CheckedHall::errorPosition);
    }
}

/** Checks each promise of the document: ordinary inputs, edges, wrong inputs. Numbers are worked out by hand. */
public final class PromiseTest extends Checks {
    /** A room that does not cool below 25 degrees, two groups, and two bookings with no hour between them. */
    private static CheckedHall plain() {
        CheckedHall h = new CheckedHall();
        h.addRoom(2, 5, 2, 10);
        h.addGroup();
        h.addGroup();
        h.book(0, 0, 5, 2, 18);
        h.book(0, 1, 7, 1, 20);
        return h;
    }

    /** A room with a degree an hour that keeps its 10 degrees; heating for its booking begins at 5. */
    private static CheckedHall slow() {
        CheckedHall h = new CheckedHall();
        h.outside(10);
        h.addRoom(1, 9, 1, 10);
        h.addGroup();
        h.book(0, 0, 15, 1, 20);
        return h;
    }

    private static void newObject() {
        says("promise 1");
        CheckedHall h = new CheckedHall();
        int[] due = {0, 0, 0, 0, 5, 0, 0, 0, 0, 0};
        for (int w = 0; w <= 9; w++) is("about(" + w + ")", h.about(w), due[w]);
        is("errorPosition", h.errorPosition(), 0);
        is("clearText", h.clearText(), 0);
        is("coldest", h.coldest(), NONE);
        is("NONE", HallHeating.NONE, NONE);
        fails("undo", STATE, h::undo);
        fails("room(0, 0)", INDEX, () -> h.room(0, 0));
        fails("owes(0)", INDEX, () -> h.owes(0));
        fails("booking(0, 0)", INDEX, () -> h.booking(0, 0));
        fails("restore(0)", STATE, () -> h.restore(0));
        fails("restore(1)", STATE, () -> h.restore(1));
    }

    private static void append() {
        says("promise 2");
        CheckedHall h = new CheckedHall();
        is("append", h.append('H'), 1);
        is("append(0)", h.append(0), 2);
        is("append(255)", h.append(255), 3);
        fails("append(-1)", ARGUMENT, () -> h.append(-1));
        fails("append(256)", ARGUMENT, () -> h.append(256));
        for (int i = 4; i <= 120; i++) is("append", h.append('g'), i);
        fails("append to 120", STATE, () -> h.append('g'));
        fails("append(256) to 120", ARGUMENT, () -> h.append(256));
        is("length", h.clearText(), 120);
        h.append('H');
        h.append('g');
        is("errorPosition", h.errorPosition(), NONE);
        fails("undo of append", STATE, h::undo);
    }

    private static void clearText() {
        says("promise 3");
        CheckedHall h = new CheckedHall();
        h.append('x');
        h.append('y');
        is("clearText", h.clearText(), 2);
        is("clearText again", h.clearText(), 0);
        is("append then", h.append('H'), 1);
        is("errorPosition then", h.errorPosition(), NONE);
    }

    private static void errorAt(String text, int due) {
        CheckedHall h = new CheckedHall();
        h.type(text);
        is("errorPosition of " + text, h.errorPosition(), due);
        is("length then", h.clearText(), text.length());
        if (due != NONE) {
            h.type(text);
            fails("load of " + text, STATE, h::load);
        }
    }

    private static void errorPosition() {
        says("promise 4");
        errorAt("", 0);
        errorAt("h", 0);
        errorAt("H", NONE);
        errorAt("HH", 1);
        errorAt("H ", 1);
        errorAt("Hr", 2);
        errorAt("Hr0", 2);
        errorAt("Hr10", 3);
        errorAt("Hr110", 4);
        errorAt("Hr111", 5);
        errorAt("Hr1114", 5);
        errorAt("Hr111:", 5);
        errorAt("Hr111/", 5);
        errorAt("Hr1113", 6);
        errorAt("Hr1110:", 6);
        errorAt("Hr1111/", 6);
        errorAt("Hr:", 2);
        errorAt("Hr/", 2);
        errorAt("Hr11130", NONE);
        errorAt("Hr11131", 6);
        errorAt("Hr99900", NONE);
        errorAt("Hr99929r99929r99929r99929", NONE);
        errorAt("Hr99929r99929r99929r99929r", 25);
        errorAt("Hgggggg", NONE);
        errorAt("Hggggggg", 7);
        errorAt("Hggggggo", 8);
        errorAt("Ho", 2);
        errorAt("Ho0", 2);
        errorAt("Ho,", 2);
        errorAt("Ho+", 3);
        errorAt("Ho+00", NONE);
        errorAt("Ho+25", NONE);
        errorAt("Ho+26", 4);
        errorAt("Ho+3", 3);
        errorAt("Ho-00", 4);
        errorAt("Ho-01", NONE);
        errorAt("Ho-19", NONE);
        errorAt("Ho-20", NONE);
        errorAt("Ho-21", 4);
        errorAt("Ho+25o-20o+00", NONE);
        CheckedHall shorter = new CheckedHall();
        shorter.type("Hr11130g");
        shorter.type("Hr1113");
        is("errorPosition of a text after a longer one", shorter.errorPosition(), 6);
        errorPositionOfBookings();
    }

    private static void errorPositionOfBookings() {
        errorAt("Hb", 1);
        errorAt("Hgb", 2);
        errorAt("Hr11111b", 7);
        errorAt("Hgr11111b", 9);
        String b = "Hr11111gb";
        errorAt(b + "1", 9);
        errorAt(b + "01", 10);
        errorAt(b + "002", 11);
        errorAt(b + "0019", 13);
        errorAt(b + "00199", 14);
        errorAt(b + "0000000", 15);
        errorAt(b + "0000013", 15);
        errorAt(b + "000002", 14);
        errorAt(b + "000000111", 17);
        errorAt(b + "000000126", 17);
        errorAt(b + "00000010", 16);
        errorAt(b + "00000013", 16);
        errorAt(b + "000000112", NONE);
        errorAt(b + "001991225", NONE);
        errorAt(b + "000000112g", NONE);
        errorAt(b + "000000112b", 19);
        errorAt(b + "000000112gb010010112", NONE);
        errorAt(b + "000050312b000040112", NONE);
        errorAt(b + "000050312b000080112", NONE);
        errorAt(b + "000050312b000040212", 18);
        errorAt(b + "000050312b000070112", 18);
        errorAt(b + "000050312b000060112", 18);
        errorAt(b + "000050312b000041212", 18);
        errorAt(b + "000050312b00005031", 27);
        errorAt(b + "000050312b00005031x", 27);
        errorAt(b + "000050312b000050326", 27);
        errorAt(b + "000050312r11111b100050312", NONE);
        errorAt(b + "000050312r11111b100050312b000070112", 34);
    }

    private static void load() {
        says("promise 5");
        CheckedHall h = new CheckedHall();
        h.addRoom(1, 1, 1, 1);
        h.addGroup();
        h.book(0, 0, 0, 3, 20);
        h.outside(7);
        h.pass(1);
        h.save(0);
        h.save(1);
        String before = h.all();
        h.type("Hr12304r56730ggb010070312o-");
        fails("load of no hall", STATE, h::load);
        same("state then", h.all(), before);
        is("undo then", h.undo(), 4);
        is("restore then", h.restore(1), 1);
        h.append('1');
        h.append('9');
        h.pass(1);
        h.prove(0, true);
        h.pass(1);
        is("the parish paid", h.about(7), 1);
        is("simulate, so that something was tried out", h.simulate(1, 40) >= 0 ? 1 : 0, 1);
        is("load", h.load(), 2);
        fails("undo then", STATE, h::undo);
        fails("restore(0) then", STATE, () -> h.restore(0));
        fails("restore(1) then", STATE, () -> h.restore(1));
        is("willOwe(0)", h.willOwe(0), 0);
        same("hall of the text", h.all(), "0 2 2 1 -19 0 0 0 0 0 1 2 3 4 -99 0 -99 5 6 7 30 -99 -99 -99 0 0 0 1 7 3 12 0 0 0 0 0 ");
        is("length then", h.clearText(), 29);
        h.type("H");
        is("load of nothing", h.load(), 0);
        is("temperature outside", h.about(4), 5);
        is("rooms", h.about(1), 0);
        is("groups", h.about(2), 0);
        is("bookings", h.about(3), 0);
        CheckedHall two = CheckedHall.loaded("Ho+20r11100o+00o-05");
        is("the last temperature outside", two.about(4), -5);
    }

    private static void about() {
        says("promise 6");
        CheckedHall h = plain();
        fails("about(-1)", ARGUMENT, () -> h.about(-1));
        fails("about(10)", ARGUMENT, () -> h.about(10));
        is("hour", h.about(0), 0);
        is("rooms", h.about(1), 1);
        is("groups", h.about(2), 2);
        is("bookings", h.about(3), 2);
        is("outside", h.about(4), 5);
        h.pass(7);
        h.prove(0, true);
        h.pass(1);
        is("hour then", h.about(0), 8);
        is("meter", h.about(5), 25);
        is("groups together", h.about(6), 16);
        is("parish", h.about(7), 4);
        is("rest", h.about(8), 5);
        is("heated hours", h.about(9), 5);
        h.pay(0);
        h.pay(1);
        is("groups together, paid", h.about(6), 16);
        is("rest, paid", h.about(8), 5);
        CheckedHall both = CheckedHall.loaded("Hr11110r11110gb000000112b100000115");
        is("pass", both.pass(1), 3);
        is("one pilot flame for all rooms", both.about(8), 1);
        is("heated hours of both rooms", both.about(9), 2);
    }

    private static void room() {
        says("promise 7");
        CheckedHall h = plain();
        fails("room(1, 0)", INDEX, () -> h.room(1, 0));
        fails("room(-1, 7)", INDEX, () -> h.room(-1, 7));
        fails("room(0, 7)", ARGUMENT, () -> h.room(0, 7));
        fails("room(0, -1)", ARGUMENT, () -> h.room(0, -1));
        CheckedHall four = CheckedHall.loaded("Hr12304");
        for (int w = 0; w <= 3; w++) is("room(0, " + w + ")", four.room(0, w), w + 1);
        int[][] due = {{NONE, 0, NONE}, {NONE, 0, 0}, {NONE, 0, 0}, {NONE, 0, 0}, {NONE, 0, 0}, {0, 1, 0}, {0, 1, 0},
            {1, NONE, 1}, {NONE, NONE, NONE}};
        int[] warm = {10, 10, 12, 14, 16, 18, 18, 18, 20};
        for (int hour = 0; hour <= 8; hour++) {
            for (int w = 4; w <= 6; w++) is("room(0, " + w + ") at " + hour, h.room(0, w), due[hour][w - 4]);
            is("temperature at " + hour, h.room(0, 3), warm[hour]);
            h.pass(1);
        }
        CheckedHall order = CheckedHall.loaded("Hr11130gb000090112b000030112b000060112r11130b100020112");
        is("next of three", order.room(0, 5), 1);
        is("next of the other room", order.room(1, 5), 3);
        order.pass(3);
        is("next of three at 3", order.room(0, 5), 2);
        is("booking of now at 3", order.room(0, 4), 1);
        is("it heats, though nothing is missing", order.room(0, 6), 1);
    }

    /** What an hour does, seen by the numbers of room, owes and booking. */
    private static void hours() {
        says("promise 7");
        CheckedHall cold = new CheckedHall();
        cold.outside(-20);
        cold.addRoom(1, 9, 1, 30);
        cold.addRoom(1, 1, 1, -10);
        is("9 * 50 / 100 degrees less", cold.later(0, 1), 26);
        is("1 * 10 / 100 degrees less", cold.later(1, 1), -10);
        CheckedHall warm = new CheckedHall();
        warm.outside(25);
        warm.addRoom(1, 9, 1, -10);
        is("9 * -35 / 100 degrees less, towards 0", warm.later(0, 1), -7);
        CheckedHall begun = slow();
        is("begins", begun.begins(0), 5);
        begun.pass(6);
        is("a degree more", begun.room(0, 3), 11);
        begun.outside(25);
        is("begun, so it goes on", begun.room(0, 6), 0);
        is("pass", begun.pass(1), 2);
        is("a degree from outside, one from heating", begun.room(0, 3), 13);
        begun.undo();
        is("begun on a copy, too", begun.later(0, 1), 13);
        is("begun in a state that is undone to, too", begun.room(0, 6), 0);
        CheckedHall hundred = new CheckedHall();
        hundred.addRoom(1, 5, 1, 25);
        is("5 * 20 / 100 degrees less", hundred.later(0, 1), 24);
        CheckedHall above = CheckedHall.loaded("Hr11130go+25b000000112");
        is("pass above the wanted temperature", above.pass(1), 0);
        is("it is not cooled to it", above.room(0, 3), 30);
        CheckedHall next = slow();
        next.pass(6);
        next.book(0, 0, 13, 1, 12);
        is("another one is next, and is not needed yet", next.room(0, 6), NONE);
        is("begins only behind it", next.begins(0), 14);
        next.cancel(1);
        is("next again, and begun", next.room(0, 6), 0);
        CheckedHall far = slow();
        far.book(0, 0, 14, 1, 12);
        far.pass(5);
        is("only the next one is looked at", far.room(0, 6), NONE);
    }

    private static void owes() {
        says("promise 8");
        CheckedHall h = plain();
        fails("owes(2)", INDEX, () -> h.owes(2));
        fails("owes(-1)", INDEX, () -> h.owes(-1));
        h.pass(6);
        is("owes(0), preheated", h.owes(0), 16);
        is("owes(1)", h.owes(1), 0);
        h.pass(1);
        is("owes(0), half is left", h.owes(0), 8);
        is("owes(1), half is left", h.owes(1), 8);
        is("groups together", h.about(6), 16);
        h.pass(1);
        is("owes(1), own hour", h.owes(1), 12);
        CheckedHall sameGroup = CheckedHall.loaded("Hr25210go+05b000050218b000070120");
        sameGroup.pass(7);
        is("owes, the same group behind", sameGroup.owes(0), 16);
        CheckedHall gap = CheckedHall.loaded("Hr25210ggo+05b000050218b010080118");
        gap.pass(9);
        is("owes(0), an hour between", gap.owes(0), 16);
        is("owes(1), an hour between", gap.owes(1), 0);
        CheckedHall otherRoom = CheckedHall.loaded("Hr25210r25225ggo+05b000050218b110070112");
        otherRoom.pass(7);
        is("owes(0), other room behind", otherRoom.owes(0), 16);
        is("owes(1), other room behind", otherRoom.owes(1), 0);
        CheckedHall odd = CheckedHall.loaded("Hr11710ggo+10b000020117b010030112");
        odd.pass(3);
        is("preheat debt", odd.booking(0, 5), 7);
        is("owes(0), 7 less the half rounded down", odd.owes(0), 4);
        is("owes(1), the half of 7 rounded down", odd.owes(1), 3);
        CheckedHall late = CheckedHall.loaded("Hr25210ggo+05b000050218");
        late.pass(6);
        late.book(0, 1, 7, 1, 12);
        late.pass(1);
        is("owes(1), booked at last", late.owes(1), 8);
        CheckedHall gone = plain();
        gone.pass(6);
        gone.cancel(1);
        gone.pass(1);
        is("owes(0), cancelled at last", gone.owes(0), 16);
        CheckedHall before = plain();
        before.pass(6);
        before.pay(0);
        before.pass(1);
        is("owes(0), paid before half was left", before.owes(0), -8);
    }

    private static void booking() {
        says("promise 9");
        CheckedHall h = plain();
        fails("booking(2, 0)", INDEX, () -> h.booking(2, 0));
        fails("booking(-1, 10)", INDEX, () -> h.booking(-1, 10));
        fails("booking(0, 10)", ARGUMENT, () -> h.booking(0, 10));
        fails("booking(0, -1)", ARGUMENT, () -> h.booking(0, -1));
        int[] due = {0, 1, 7, 1, 20, 0, 0, 0, 0, 0};
        for (int w = 0; w <= 9; w++) is("booking(1, " + w + ")", h.booking(1, w), due[w]);
        h.pass(3);
        is("debt so far", h.booking(0, 5), 8);
        h.pass(3);
        is("over in its last hour", h.booking(0, 9), 0);
        h.pass(1);
        is("over", h.booking(0, 9), 1);
        is("debt, also when half was left", h.booking(0, 5), 16);
        is("debt of the one behind", h.booking(1, 5), 0);
        is("own heat of the first", h.booking(0, 6), 0);
        h.prove(0, true);
        is("marked", h.booking(1, 7), 1);
        h.pass(1);
        is("not marked", h.booking(1, 7), 0);
        is("own heat, marked as empty", h.booking(1, 6), 4);
        is("a cold hour: 18 is less than 20 less 1", h.booking(1, 8), 1);
        is("no cold hour", h.booking(0, 8), 0);
        CheckedHall edge = CheckedHall.loaded("Hr11917go+17b000000118b000010120b000020220");
        edge.pass(4);
        is("17 is not less than 18 less 1", edge.booking(0, 8), 0);
        is("18 is less than 20 less 1", edge.booking(1, 8), 1);
        is("20 is warm", edge.booking(2, 8), 0);
        CheckedHall other = CheckedHall.loaded("Hr11110r11110ggb110020312");
        int[] numbers = {1, 1, 2, 3, 12};
        for (int w = 0; w <= 4; w++) is("booking(0, " + w + ")", other.booking(0, w), numbers[w]);
    }

    private static void addRoom() {
        says("promise 10");
        CheckedHall h = new CheckedHall();
        int[][] bad = {{0, 1, 1, 0}, {10, 1, 1, 0}, {1, 0, 1, 0}, {1, 10, 1, 0}, {1, 1, 0, 0}, {1, 1, 10, 0},
            {1, 1, 1, -11}, {1, 1, 1, 31}};
        for (int[] b : bad) fails("addRoom", ARGUMENT, () -> h.addRoom(b[0], b[1], b[2], b[3]));
        is("addRoom", h.addRoom(1, 2, 3, -10), 0);
        is("addRoom", h.addRoom(9, 8, 7, 30), 1);
        is("size", h.room(1, 0), 9);
        is("loss", h.room(1, 1), 8);
        is("power", h.room(1, 2), 7);
        is("temperature", h.room(1, 3), 30);
        is("temperature", h.room(0, 3), -10);
        h.addRoom(1, 9, 9, 0);
        is("addRoom", h.addRoom(1, 1, 1, 0), 3);
        fails("a fifth room", STATE, () -> h.addRoom(1, 1, 1, 0));
        for (int[] b : bad) fails("addRoom", ARGUMENT, () -> h.addRoom(b[0], b[1], b[2], b[3]));
        is("rooms", h.about(1), 4);
        is("remembered", h.undo(), 3);
        is("rooms", h.about(1), 3);
        is("addRoom again", h.addRoom(5, 5, 5, 5), 3);
        is("size again", h.room(3, 0), 5);
    }

    private static void addGroup() {
        says("promise 11");
        CheckedHall h = new CheckedHall();
        for (int g = 0; g < 6; g++) is("addGroup", h.addGroup(), g);
        fails("a seventh group", STATE, h::addGroup);
        is("groups", h.about(2), 6);
        is("owes", h.owes(5), 0);
        is("remembered", h.undo(), 5);
        CheckedHall again = CheckedHall.loaded("Hr11110gb000000112");
        again.addGroup();
        again.undo();
        again.pass(1);
        is("owes(0)", again.owes(0), 1);
        again.addGroup();
        is("owes(1)", again.owes(1), 0);
        CheckedHall second = new CheckedHall();
        second.addRoom(1, 1, 1, 10);
        second.addGroup();
        second.save(0);
        second.addGroup();
        second.book(0, 1, 0, 1, 25);
        second.pass(1);
        is("owes(1), charged", second.owes(1), 1);
        second.restore(0);
        second.addGroup();
        is("owes(1), added after restore", second.owes(1), 0);
        CheckedHall used = plain();
        used.pass(8);
        is("willOwe(1)", used.willOwe(1), 12);
        used.type("Hg");
        used.load();
        is("owes(0), loaded anew", used.owes(0), 0);
        used.addGroup();
        is("owes(1), added anew", used.owes(1), 0);
    }

    private static void book() {
        says("promise 12");
        CheckedHall h = CheckedHall.loaded("Hr11110r11110gg");
        h.pass(10);
        fails("no room", INDEX, () -> h.book(2, 0, 0, 0, 0));
        fails("no room", INDEX, () -> h.book(-1, 0, 10, 1, 12));
        fails("no group", INDEX, () -> h.book(0, 2, 0, 0, 0));
        fails("no group", INDEX, () -> h.book(0, -1, 10, 1, 12));
        int[][] bad = {{9, 1, 12}, {200, 1, 12}, {10, 0, 12}, {10, 13, 12}, {10, 1, 11}, {10, 1, 26}};
        for (int[] b : bad) fails("book", ARGUMENT, () -> h.book(0, 0, b[0], b[1], b[2]));
        is("book at the hour of now", h.book(0, 1, 10, 12, 12), 0);
        is("book late", h.book(0, 0, 199, 12, 25), 1);
        is("its group", h.booking(0, 1), 1);
        is("its first hour", h.booking(1, 2), 199);
        is("its hours", h.booking(1, 3), 12);
        is("its wanted temperature", h.booking(1, 4), 25);
        for (int[] b : bad) fails("book", ARGUMENT, () -> h.book(0, 0, b[0], b[1], b[2]));
        fails("its last hour", STATE, () -> h.book(0, 0, 21, 1, 12));
        fails("its first hour", STATE, () -> h.book(0, 0, 10, 1, 12));
        fails("hours round its first", STATE, () -> h.book(0, 0, 188, 12, 12));
        is("other room, same hours", h.book(1, 0, 10, 12, 12), 2);
        is("right behind", h.book(0, 0, 22, 2, 12), 3);
        is("right ahead", h.book(0, 0, 187, 12, 12), 4);
        is("longer than another", h.book(1, 0, 30, 1, 12), 5);
        fails("all round another", STATE, () -> h.book(1, 0, 29, 3, 12));
        for (int b = 6; b < 12; b++) is("book", h.book(1, 0, 40 + b, 1, 12), b);
        fails("a thirteenth booking", STATE, () -> h.book(1, 0, 100, 1, 12));
        fails("its room does not exist", INDEX, () -> h.book(2, 0, 100, 1, 12));
        fails("its hours are too many", ARGUMENT, () -> h.book(1, 0, 100, 13, 12));
        is("bookings", h.about(3), 12);
        is("remembered", h.undo(), 12);
        is("bookings", h.about(3), 11);
        h.pass(48);
        is("over ones count, too", h.book(1, 0, 100, 1, 12), 11);
        fails("over ones count, too", STATE, () -> h.book(1, 0, 102, 1, 12));
    }

    private static void cancel() {
        says("promise 13");
        CheckedHall h = plain();
        fails("cancel(2)", INDEX, () -> h.cancel(2));
        fails("cancel(-1)", INDEX, () -> h.cancel(-1));
        h.book(0, 1, 30, 1, 13);
        is("cancel", h.cancel(1), 2);
        is("those behind it are smaller by 1", h.booking(1, 2), 30);
        is("those ahead of it are not", h.booking(0, 2), 5);
        fails("cancel(2) then", INDEX, () -> h.cancel(2));
        h.undo();
        is("undone", h.booking(1, 2), 7);
        is("undone", h.booking(2, 2), 30);
        h.pass(1);
        is("cancel, not yet preheated", h.cancel(0), 2);
        h.undo();
        h.pass(1);
        fails("cancel, preheated", STATE, () -> h.cancel(0));
        h.pass(5);
        is("cancel in its first hour", h.cancel(1), 2);
        h.undo();
        h.pass(1);
        fails("cancel, its first hour went by", STATE, () -> h.cancel(1));
        fails("cancel, over", STATE, () -> h.cancel(0));
        is("bookings", h.about(3), 3);
        CheckedHall fresh = plain();
        fresh.pass(7);
        fresh.prove(0, true);
        fresh.cancel(1);
        fresh.book(0, 1, 7, 1, 20);
        is("a new one is not marked", fresh.booking(1, 7), 0);
        fresh.cancel(1);
        CheckedHall again = new CheckedHall();
        again.addRoom(1, 1, 1, 10);
        again.addGroup();
        again.save(0);
        again.book(0, 0, 2, 1, 20);
        again.pass(3);
        int[] heated = {0, 0, 2, 1, 20, 2, 1, 0, 1, 1};
        for (int w = 0; w <= 9; w++) is("booking(0, " + w + ")", again.booking(0, w), heated[w]);
        again.restore(0);
        again.book(0, 0, 3, 1, 12);
        int[] anew = {0, 0, 3, 1, 12, 0, 0, 0, 0, 0};
        for (int w = 0; w <= 9; w++) is("a new booking(0, " + w + ")", again.booking(0, w), anew[w]);
        is("not begun", again.room(0, 6), NONE);
        is("it can be cancelled", again.cancel(0), 0);
    }

    private static void prove() {
        says("promise 14");
        CheckedHall h = plain();
        fails("prove(1, true)", INDEX, () -> h.prove(1, true));
        fails("prove(-1, true)", INDEX, () -> h.prove(-1, true));
        fails("nothing has the hour of now", STATE, () -> h.prove(0, true));
        h.pass(4);
        fails("preheated only", STATE, () -> h.prove(0, true));
        h.pass(3);
        is("prove", h.prove(0, true), 1);
        is("marked", h.booking(1, 7), 1);
        is("not the other one", h.booking(0, 7), 0);
        is("proved again", h.prove(0, true), 1);
        is("taken away", h.prove(0, false), 1);
        is("not marked", h.booking(1, 7), 0);
        h.undo();
        is("marked, undone", h.booking(1, 7), 1);
        int owed = h.owes(1);
        is("pass", h.pass(1), 5);
        is("the parish pays", h.about(7), 4);
        is("the group does not", h.owes(1), owed);
        fails("over", STATE, () -> h.prove(0, true));
        CheckedHall two = CheckedHall.loaded("Hr11110gb000000225");
        two.prove(0, true);
        two.pass(2);
        is("the mark was for one hour", two.about(7), 1);
        is("the next one is charged", two.owes(0), 1);
        CheckedHall rooms = CheckedHall.loaded("Hr11110r11110gb100000112b000000112");
        is("the booking of that room", rooms.prove(1, true), 0);
        is("that of the other", rooms.booking(1, 7), 0);
    }

    private static void outside() {
        says("promise 15");
        CheckedHall h = new CheckedHall();
        fails("outside(-21)", ARGUMENT, () -> h.outside(-21));
        fails("outside(26)", ARGUMENT, () -> h.outside(26));
        is("outside", h.outside(-20), 5);
        is("outside", h.outside(25), -20);
        is("outside", h.outside(25), 25);
        is("about(4)", h.about(4), 25);
        is("remembered", h.undo(), 2);
        h.undo();
        is("about(4), undone", h.about(4), -20);
    }

    private static void pay() {
        says("promise 16");
        CheckedHall h = plain();
        fails("pay(2)", INDEX, () -> h.pay(2));
        fails("pay(-1)", INDEX, () -> h.pay(-1));
        h.pass(6);
        is("pay", h.pay(0), 16);
        is("owes", h.owes(0), 0);
        is("pay again", h.pay(0), 0);
        h.pass(1);
        is("pay, below 0", h.pay(0), -8);
        is("owes", h.owes(0), 0);
        is("pay the half", h.pay(1), 8);
        h.undo();
        is("owes, undone", h.owes(1), 8);
        is("meter", h.about(5), 20);
    }

    private static void pass() {
        says("promise 17");
        CheckedHall h = plain();
        fails("pass(0)", ARGUMENT, () -> h.pass(0));
        fails("pass(49)", ARGUMENT, () -> h.pass(49));
        fails("pass(-1)", ARGUMENT, () -> h.pass(-1));
        is("nothing", h.pass(1), 0);
        is("preheating and the flame", h.pass(1), 5);
        is("three hours of it", h.pass(3), 15);
        is("nothing is missing", h.pass(2), 0);
        is("own hour", h.pass(41), 5);
        is("hour", h.about(0), 48);
        for (int i = 0; i < 4; i++) h.pass(i == 0 ? 47 : 48);
        fails("pass(2) at 239", STATE, () -> h.pass(2));
        fails("pass(49) at 239", ARGUMENT, () -> h.pass(49));
        is("hour", h.about(0), 239);
        is("pass(1) at 239", h.pass(1), 0);
        is("hour", h.about(0), 240);
        fails("pass(1) at 240", STATE, () -> h.pass(1));
        fails("pass(0) at 240", ARGUMENT, () -> h.pass(0));
        is("one action each: 15, of which 14 are remembered", h.undo(), 13);
    }

    private static void undo() {
        says("promise 18");
        String[] states = new String[17];
        for (int i = 0; i <= 16; i++) states[i] = acted(i).all();
        for (int back = 1; back <= 14; back++) {
            CheckedHall h = acted(16);
            for (int i = 1; i <= back; i++) is("undo", h.undo(), 14 - i);
            same("undone " + back, h.all(), states[16 - back]);
            if (back < 14) continue;
            fails("undo of a forgotten one", STATE, h::undo);
            same("state then", h.all(), states[2]);
            h.outside(3);
            is("undo, remembered anew", h.undo(), 0);
        }
        CheckedHall none = plain();
        is("five actions", none.undo(), 4);
        String before = none.all();
        fails("pass", ARGUMENT, () -> none.pass(0));
        fails("prove", STATE, () -> none.prove(0, true));
        fails("book", STATE, () -> none.book(0, 0, 5, 1, 12));
        fails("addRoom", ARGUMENT, () -> none.addRoom(0, 0, 0, 0));
        fails("cancel", INDEX, () -> none.cancel(3));
        none.save(0);
        none.later(0, 3);
        none.runScript(1, 10003);
        none.simulate(1, 5);
        none.append('H');
        none.clearText();
        same("state then", none.all(), before);
        is("nothing else is an action", none.undo(), 3);
        CheckedHall many = new CheckedHall();
        for (int i = 0; i < 40; i++) many.outside(i % 20);
        for (int i = 13; i >= 0; i--) is("undo", many.undo(), i);
        fails("undo", STATE, many::undo);
        is("outside", many.about(4), 5);
    }

    private static CheckedHall acted(int actions) {
        CheckedHall h = new CheckedHall();
        for (int i = 0; i < actions; i++) act(h, i);
        return h;
    }

    /** One action of each kind and more, also such that change nothing. */
    private static void act(CheckedHall h, int i) {
        switch (i) {
            case 0: case 1: h.addRoom(1 + i, 2, 3, 9); break;
            case 2: case 3: h.addGroup(); break;
            case 4: h.book(0, 0, 2, 3, 20); break;
            case 5: h.book(1, 1, 3, 3, 20); break;
            case 6: h.outside(-7); break;
            case 7: h.outside(-7); break;
            case 8: h.pass(2); break;
            case 9: h.prove(0, true); break;
            case 10: h.pass(2); break;
            case 11: h.pay(0); break;
            case 12: h.pay(0); break;
            case 13: h.book(1, 0, 50, 1, 12); break;
            case 14: h.cancel(2); break;
            default: h.prove(1, false); break;
        }
    }

    private static void later() {
        says("promise 19");
        CheckedHall h = plain();
        fails("later(1, 0)", INDEX, () -> h.later(1, 0));
        fails("later(-1, 49)", INDEX, () -> h.later(-1, 49));
        fails("later(0, -1)", ARGUMENT, () -> h.later(0, -1));
        fails("later(0, 49)", ARGUMENT, () -> h.later(0, 49));
        int[] warm = {10, 10, 12, 14, 16, 18, 18, 18, 20, 20};
        String before = h.all();
        for (int i = 0; i < warm.length; i++) is("later(0, " + i + ")", h.later(0, i), warm[i]);
        is("later(0, 48)", h.later(0, 48), 20);
        same("state then", h.all(), before);
        CheckedHall end = CheckedHall.loaded("Hr91930o+00");
        for (int i = 0; i < 5; i++) end.pass(48);
        is("temperature at 240", end.room(0, 3), 30);
        end.addRoom(1, 9, 1, 30);
        is("beyond 240", end.later(1, 2), 26);
        is("beyond 240", end.later(1, 48), 11);
    }

    private static void begins() {
        says("promise 20");
        CheckedHall h = plain();
        fails("begins(2)", INDEX, () -> h.begins(2));
        fails("begins(-1)", INDEX, () -> h.begins(-1));
        is("begins(0)", h.begins(0), 1);
        is("begins(1)", h.begins(1), 7);
        h.pass(3);
        is("begun, from now on", h.begins(0), 3);
        h.pass(3);
        is("in its hours", h.begins(0), 6);
        h.pass(1);
        is("over", h.begins(0), NONE);
        is("the next", h.begins(1), 7);
        is("hour", h.about(0), 7);
        CheckedHall warm = CheckedHall.loaded("Hr11130go+25b000090112");
        is("nothing is missing", warm.begins(0), 9);
        CheckedHall now = CheckedHall.loaded("Hr11100go+00b000400125");
        is("25 hours are too few", now.begins(0), 15);
        CheckedHall rooms = CheckedHall.loaded("Hr11125r11100go+00b000400112b100400125");
        is("of the other room", rooms.begins(1), 15);
    }

    private static void cost() {
        says("promise 21");
        CheckedHall h = plain();
        fails("no room", INDEX, () -> h.cost(1, 0, -1, 0, 0));
        fails("no group", INDEX, () -> h.cost(0, 2, -1, 0, 0));
        int[][] bad = {{-1, 1, 12}, {200, 1, 12}, {9, 0, 12}, {9, 13, 12}, {9, 1, 11}, {9, 1, 26}};
        for (int[] b : bad) fails("cost", ARGUMENT, () -> h.cost(0, 0, b[0], b[1], b[2]));
        is("taken", h.cost(0, 0, 6, 3, 12), NONE);
        String before = h.all();
        is("two degrees behind it", h.cost(0, 0, 8, 2, 22), 5);
        is("nothing is missing", h.cost(0, 0, 8, 2, 20), 0);
        is("before it", h.cost(0, 1, 0, 1, 12), 5);
        same("state then", h.all(), before);
        h.pass(6);
        fails("gone by", ARGUMENT, () -> h.cost(0, 0, 5, 1, 12));
        for (int b = 2; b < 12; b++) h.book(0, 0, 20 + b, 1, 12);
        is("12 bookings", h.cost(0, 0, 100, 1, 12), NONE);
        fails("12 bookings, no group", INDEX, () -> h.cost(0, 2, 100, 1, 12));
        CheckedHall less = slow();
        less.pass(6);
        is("it stops preheating: less", less.cost(0, 0, 9, 1, 12), -6);
        CheckedHall flame = CheckedHall.loaded("Hr11110r31110gb000000125");
        is("the flame burns anyhow", flame.cost(1, 0, 0, 1, 12), 3);
        is("and not in the next hour", flame.cost(1, 0, 0, 2, 12), 3 + 3 + 1);
    }

    private static void willOwe() {
        says("promise 22");
        CheckedHall h = plain();
        fails("willOwe(2)", INDEX, () -> h.willOwe(2));
        fails("willOwe(-1)", INDEX, () -> h.willOwe(-1));
        is("willOwe(0)", h.willOwe(0), 8);
        is("willOwe(1)", h.willOwe(1), 12);
        is("hour", h.about(0), 0);
        h.pass(7);
        h.prove(0, true);
        is("willOwe(1), marked", h.willOwe(1), 8);
        is("still marked", h.booking(1, 7), 1);
        h.pay(1);
        is("willOwe(1), paid", h.willOwe(1), 0);
        h.pass(1);
        is("willOwe(0), all over", h.willOwe(0), 8);
        CheckedHall two = CheckedHall.loaded("Hr11110gb000000225");
        two.prove(0, true);
        is("the mark is for one hour", two.willOwe(0), 1);
        CheckedHall late = CheckedHall.loaded("Hr11110gb001991225");
        is("the latest booking", late.willOwe(0), 15);
    }

    private static void coldest() {
        says("promise 23");
        CheckedHall none = CheckedHall.loaded("Hr11110g");
        is("without bookings", none.coldest(), NONE);
        CheckedHall h = CheckedHall.loaded("Hr11100r11100r11100go+00b000000312b100000512b200000512");
        is("the greatest, the smallest number", h.coldest(), 1);
        is("hour", h.about(0), 0);
        h.pass(20);
        is("all over", h.coldest(), 1);
        CheckedHall warm = CheckedHall.loaded("Hr11130go+25b000000112b000010112");
        is("all 0", warm.coldest(), 0);
        CheckedHall last = CheckedHall.loaded("Hr11125r11100go+00b000000112b100010812");
        is("the last", last.coldest(), 1);
    }

    private static void script(CheckedHall h, int n, long script, int due) {
        is("runScript(" + n + ", " + script + ")", h.runScript(n, script), due);
    }

    private static void runScript() {
        says("promise 24");
        CheckedHall h = plain();
        fails("n 0", ARGUMENT, () -> h.runScript(0, 0));
        fails("n 4", ARGUMENT, () -> h.runScript(4, 0));
        fails("negative", ARGUMENT, () -> h.runScript(3, -1));
        fails("negative", ARGUMENT, () -> h.runScript(1, Long.MIN_VALUE));
        fails("6 digits", ARGUMENT, () -> h.runScript(1, 100000));
        fails("11 digits", ARGUMENT, () -> h.runScript(2, 10000000000L));
        fails("16 digits", ARGUMENT, () -> h.runScript(3, 1000000000000000L));
        fails("19 digits", ARGUMENT, () -> h.runScript(3, Long.MAX_VALUE));
        String before = h.all();
        script(h, 1, 0, 0);
        script(h, 3, 0, 0);
        script(h, 2, 10001, 0);
        long[] good = {10001, 10048, 20000, 20025, 20100, 20120, 40000, 41000, 50000, 50100, 60000, 60010, 70000, 71999,
            80000, 80100, 90000};
        for (long g : good) script(h, 1, g, NONE);
        long[] bad = {1, 9999, 10000, 10049, 10101, 11001, 20026, 20121, 20200, 21000, 20126, 30000, 30100, 40001, 40010,
            40100, 42000, 50200, 50010, 50001, 59900, 60011, 60110, 61000, 72000, 80001, 80002, 80010, 80200, 90001, 99999};
        for (long b : bad) script(h, 1, b, 0);
        script(h, 3, 10005_30000_30100L, NONE);
        script(h, 3, 10005_30200_30100L, 1);
        script(h, 3, 10005_30001_30100L, 1);
        script(h, 3, 10005_30010_30100L, 1);
        script(h, 2, 10005_31000L, 1);
        script(h, 3, 10007_30100_10001L, NONE);
        script(h, 3, 10006_70016_70015L, 2);
        script(h, 3, 10006_60018_60019L, 2);
        script(h, 3, 10006_90020_90021L, 2);
        script(h, 3, 10007_80001_80100L, NONE);
        script(h, 2, 10006_80001L, 1);
        script(h, 2, 10002_50000L, 1);
        script(h, 3, 10006_40000_70000L, NONE);
        script(h, 3, 50000_50000_50000L, 2);
        script(h, 3, 20120_10001_60011L, NONE);
        script(h, 3, 20120_10001_60012L, 2);
        script(h, 3, 20020_10001_60011L, 2);
        same("state then", h.all(), before);
        CheckedHall end = CheckedHall.loaded("Hr11120go+20");
        for (int i = 0; i < 5; i++) end.pass(i == 0 ? 46 : 48);
        script(end, 3, 10001_10001_10001L, 2);
        script(end, 1, 10003, 0);
        script(end, 1, 10002, NONE);
        CheckedHall marked = CheckedHall.loaded("Hr11110gb000000225o+10");
        script(marked, 3, 30100_10001_70000L, NONE);
        script(marked, 3, 30000_10001_70000L, 2);
        marked.prove(0, true);
        script(marked, 3, 30000_10001_70000L, 2);
        CheckedHall many = CheckedHall.loaded("Hr11130ggo+20b000010112b000020112b000030112b000040112b000050112b000060112b000070112");
        for (int b = 7; b < 12; b++) many.book(0, 1, 20 + b, 1, 12);
        script(many, 2, 51100_51100L, 1);
        script(many, 2, 10048_81101L, NONE);
        script(many, 1, 81200, 0);
        CheckedHall big = CheckedHall.loaded("Hr99900go+00b000001220b000121220b000241220");
        big.pass(36);
        int owed = big.owes(0);
        is("owes, on three digits", owed >= 200 && owed <= 999 ? 1 : 0, 1);
        script(big, 1, 70000 + owed, NONE);
        script(big, 1, 70000 + owed - 1, 0);
        CheckedHall bigger = CheckedHall.loaded("Hr99900r99900r99900go+00b000001225b000121225b000241225b100001225b100121225"
            + "b200001225b200121225");
        bigger.outside(-20);
        bigger.pass(36);
        int meter = bigger.about(5);
        is("the meter, on four digits", meter >= 2000 && meter <= 9999 ? 1 : 0, 1);
        script(bigger, 1, 90000 + meter, NONE);
        script(bigger, 1, 90000 + meter + 1, 0);
        CheckedHall below = plain();
        below.pass(6);
        below.pay(0);
        below.pass(1);
        script(below, 1, 70000, NONE);
    }

    /** The same as simulate, by the actions. */
    private static int byActions(CheckedHall h, long seed, int m) {
        int parish = h.about(7);
        int heated = h.about(9);
        long x = seed;
        for (int i = 0; i < m && h.about(0) < 240; i++) {
            x = x * 6364136223846793005L + 1442695040888963407L;
            int r = (int) (x >>> 33);
            h.outside(r % 30 - 10);
            for (int room = 0; r / 64 % 8 == 0 && room < h.about(1); room++) {
                if (h.room(room, 4) != NONE) h.prove(room, true);
            }
            h.pass(1);
        }
        return 1000 * (h.about(7) - parish) + h.about(9) - heated;
    }

    private static void simulate() {
        says("promise 25");
        String text = "Hr99510r29308ggb000001222b110001225b010121220b100200617b000300920";
        CheckedHall h = CheckedHall.loaded(text);
        fails("m 0", ARGUMENT, () -> h.simulate(1, 0));
        fails("m 100", ARGUMENT, () -> h.simulate(1, 100));
        fails("m -1", ARGUMENT, () -> h.simulate(1, -1));
        String before = h.all();
        long[] seeds = {0, 1, -1, 42, Long.MAX_VALUE, Long.MIN_VALUE, 123456789012345L, -987654321L};
        int parish = 0;
        for (long seed : seeds) {
            int got = h.simulate(seed, 60);
            is("simulate(" + seed + ", 60)", got, byActions(CheckedHall.loaded(text), seed, 60));
            parish += got / 1000;
        }
        is("the parish pays sometimes", parish > 50 ? 1 : 0, 1);
        same("state then", h.all(), before);
        h.prove(0, true);
        CheckedHall marked = CheckedHall.loaded(text);
        marked.prove(0, true);
        is("marks as they are", h.simulate(7, 1), byActions(marked, 7, 1));
        h.pass(9);
        marked = CheckedHall.loaded(text);
        marked.prove(0, true);
        marked.pass(9);
        is("what grows in them", h.simulate(5, 30), byActions(marked, 5, 30));
        CheckedHall end = CheckedHall.loaded("Hr93510gb001991225");
        for (int i = 0; i < 4; i++) end.pass(48);
        CheckedHall other = CheckedHall.loaded("Hr93510gb001991225");
        for (int i = 0; i < 4; i++) other.pass(48);
        is("ends at 240", end.simulate(3, 99), byActions(other, 3, 99));
        is("other is at 240", other.about(0), 240);
        is("at 240", other.simulate(3, 99), 0);
        is("no rooms", new CheckedHall().simulate(9, 99), 0);
    }

    private static void save() {
        says("promise 26");
        CheckedHall h = plain();
        fails("save(2)", INDEX, () -> h.save(2));
        fails("save(-1)", INDEX, () -> h.save(-1));
        is("save(0)", h.save(0), 0);
        h.pass(8);
        is("save(1)", h.save(1), 8);
        String later = h.all();
        h.pay(1);
        h.pass(30);
        is("no action", h.undo(), 7);
        is("restore(1)", h.restore(1), 8);
        same("state then", h.all(), later);
        is("save(1) again", h.save(1), 8);
        h.restore(0);
        is("save over another", h.save(1), 0);
        is("restore it", h.restore(1), 0);
    }

    private static void restore() {
        says("promise 27");
        CheckedHall h = plain();
        fails("restore(2)", INDEX, () -> h.restore(2));
        fails("restore(-1)", INDEX, () -> h.restore(-1));
        fails("restore(0)", STATE, () -> h.restore(0));
        h.pass(3);
        String saved = h.all();
        h.save(0);
        fails("restore(1)", STATE, () -> h.restore(1));
        h.pass(5);
        h.addRoom(1, 1, 1, 1);
        h.addGroup();
        h.book(1, 2, 20, 1, 20);
        h.append('H');
        is("restore(0)", h.restore(0), 3);
        same("state then", h.all(), saved);
        is("the text is not restored", h.clearText(), 1);
        fails("undo then", STATE, h::undo);
        h.pass(9);
        h.undo();
        is("undo goes back to it", h.about(0), 3);
        h.pass(9);
        is("restore(0) again", h.restore(0), 3);
        same("state then", h.all(), saved);
        h.pass(6);
        h.save(1);
        h.undo();
        is("undo leaves the slots", h.restore(1), 9);
        h.type("Hx");
        fails("load", STATE, h::load);
        is("restore(1), a load that failed", h.restore(1), 9);
        h.type("H");
        h.load();
        fails("restore(1), loaded", STATE, () -> h.restore(1));
        fails("restore(0), loaded", STATE, () -> h.restore(0));
        h.save(0);
        is("restore(0), saved anew", h.restore(0), 0);
        is("rooms", h.about(1), 0);
    }

    public static void main(String[] args) {
        newObject();
        append();
        clearText();
        errorPosition();
        load();
        about();
        room();
        hours();
        owes();
        booking();
        addRoom();
        addGroup();
        book();
        cancel();
        prove();
        outside();
        pay();
        pass();
        undo();
        later();
        begins();
        cost();
        willOwe();
        coldest();
        runScript();
        simulate();
        save();
        restore();
        end("PromiseTest");
    }
}

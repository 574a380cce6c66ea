/** The edges that the document names in ACTIONS AND UNDO, in the promises 10 to 18 (actions) and 26 and 27 (save slots). */
public final class ActionEdgeTest extends Checks {
    private static final int MIN = Integer.MIN_VALUE;
    private static final int MAX = Integer.MAX_VALUE;

    public static void main(String[] args) {
        addRoom();
        addGroup();
        bookArguments();
        bookTogether();
        bookTwelve();
        bookOrder();
        cancelWhen();
        cancelNumbers();
        prove();
        outside();
        pay();
        pass();
        passUnits();
        eachIsAnAction();
        noActions();
        fourteenStates();
        undoTakesBack();
        save();
        restore();
        end("ActionEdgeTest");
    }

    /** One room that keeps its temperature, and two groups. */
    private static CheckedHall hall(int power, int t) {
        CheckedHall h = new CheckedHall();
        h.addRoom(1, 1, power, t);
        h.addGroup();
        h.addGroup();
        return h;
    }

    private static void addRoom() {
        says("size: 1 to 9; loss: 1 to 9; power: 1 to 9; t: its temperature, -10 to 30");
        int[] least = {1, 1, 1, -10};
        int[] most = {9, 9, 9, 30};
        for (int i = 0; i < 4; i++) {
            for (int value : new int[] {least[i], most[i]}) {
                int[] a = {5, 5, 5, 5};
                a[i] = value;
                CheckedHall h = new CheckedHall();
                is(h.addRoom(a[0], a[1], a[2], a[3]), 0);
                for (int w = 0; w < 4; w++) is(h.room(0, w), a[w]);
            }
            for (int value : new int[] {least[i] - 1, most[i] + 1, MIN, MAX}) {
                int[] a = {5, 5, 5, 5};
                a[i] = value;
                refused(ARGUMENT, h -> h.addGroup(), h -> h.addRoom(a[0], a[1], a[2], a[3]));
            }
        }
        says("addRoom: IllegalArgumentException is named ahead of IllegalStateException");
        for (int i = 0; i < 4; i++) {
            for (int value : new int[] {least[i] - 1, most[i] + 1, MIN, MAX}) {
                int[] a = {5, 5, 5, 5};
                a[i] = value;
                refused(ARGUMENT, ActionEdgeTest::fourRooms, h -> h.addRoom(a[0], a[1], a[2], a[3]));
            }
        }
        says("Returns its number.");
        CheckedHall h = new CheckedHall();
        for (int r = 0; r < 4; r++) is(h.addRoom(1, 1, 1, r), r);
        says("IllegalStateException if there are 4 rooms");
        refused(STATE, ActionEdgeTest::fourRooms, x -> x.addRoom(1, 1, 1, 1));
        h.undo();
        is(h.addRoom(9, 9, 9, 9), 3);
        fails(STATE, () -> CheckedHall.loaded("Hr11100r11100r11100r11100").addRoom(1, 1, 1, 1));
        is(CheckedHall.loaded("Hr11100r11100r11100").addRoom(1, 1, 1, 1), 3);
    }

    private static void fourRooms(CheckedHall h) {
        for (int r = 0; r < 4; r++) h.addRoom(1 + r, 1, 1, 10);
    }

    private static void addGroup() {
        says("IllegalStateException if there are 6 groups");
        CheckedHall h = new CheckedHall();
        for (int g = 0; g < 6; g++) is(h.addGroup(), g);
        fails(STATE, h::addGroup);
        h.undo();
        is(h.addGroup(), 5);
        refused(STATE, x -> {
            for (int g = 0; g < 6; g++) x.addGroup();
        }, CheckedHall::addGroup);
        is(CheckedHall.loaded("Hggggg").addGroup(), 5);
        fails(STATE, () -> CheckedHall.loaded("Hgggggg").addGroup());
        says("a group that is added owes nothing, also where another one was taken back that owed");
        CheckedHall again = hall(9, 10);
        again.save(1);
        again.addGroup();
        again.book(0, 2, 0, 1, 19);
        again.pass(1);
        is(again.owes(2), 9);
        again.restore(1);
        is(again.addGroup(), 2);
        is(again.owes(2), 0);
    }

    private static void bookArguments() {
        says("first: its first hour, the hour of now or later, at most 199");
        for (int now : new int[] {0, 1, 48, 198, 199}) {
            for (int first : new int[] {now, 199}) {
                CheckedHall h = hall(1, 20);
                h.passTo(now);
                is(h.book(0, 0, first, 1, 12), 0);
                is(h.booking(0, 2), first);
            }
            for (int first : new int[] {now - 1, 200, MIN, MAX}) {
                CheckedHall h = hall(1, 20);
                h.passTo(now);
                fails(ARGUMENT, () -> h.book(0, 0, first, 1, 12));
            }
        }
        for (int now : new int[] {200, 240}) {
            CheckedHall h = hall(1, 20);
            h.passTo(now);
            for (int first : new int[] {199, 200, now, now + 1}) fails(ARGUMENT, () -> h.book(0, 0, first, 1, 12));
        }
        says("hours: 1 to 12; t: its wanted temperature, 12 to 25");
        for (int hours = 1; hours <= 12; hours++) {
            for (int t = 12; t <= 25; t++) {
                CheckedHall h = hall(1, 20);
                is(h.book(0, 1, 0, hours, t), 0);
                is(h.booking(0, 3), hours);
                is(h.booking(0, 4), t);
            }
        }
        int[][] bad = {{0, 12}, {13, 12}, {-1, 12}, {MIN, 12}, {MAX, 12}, {1, 11}, {1, 26}, {1, MIN}, {1, MAX}, {12, 11}, {12, 26}};
        for (int[] b : bad) {
            refused(ARGUMENT, h -> {
                h.addRoom(1, 1, 1, 20);
                h.addGroup();
            }, h -> h.book(0, 0, 0, b[0], b[1]));
        }
        says("IndexOutOfBoundsException if there is no such room or group");
        CheckedHall h = hall(1, 20);
        for (int r : new int[] {-1, 1, 4, MIN, MAX}) fails(INDEX, () -> h.book(r, 0, 0, 1, 12));
        for (int g : new int[] {-1, 2, 6, MIN, MAX}) fails(INDEX, () -> h.book(0, g, 0, 1, 12));
        is(h.book(0, 1, 0, 1, 12), 0);
        is(h.booking(0, 1), 1);
    }

    private static void together(int first, int hours, boolean due) {
        CheckedHall h = hall(1, 20);
        h.book(0, 0, 50, 3, 12);
        if (due) fails(STATE, () -> h.book(0, 1, first, hours, 12));
        else is(h.book(0, 1, first, hours, 12), 1);
    }

    private static void bookTogether() {
        says("No two bookings of a room have an hour together.");
        for (int first = 30; first <= 60; first++) {
            for (int hours = 1; hours <= 12; hours++) together(first, hours, first <= 52 && first + hours - 1 >= 50);
        }
        says("or it would have an hour together with another booking of this room: one of any number");
        CheckedHall three = hall(1, 20);
        three.book(0, 0, 20, 2, 12);
        three.book(0, 0, 10, 2, 12);
        three.book(0, 0, 0, 2, 12);
        for (int first : new int[] {0, 1, 9, 10, 11, 19, 20, 21}) fails(STATE, () -> three.book(0, 1, first, 2, 12));
        is(three.book(0, 1, 2, 8, 12), 3);
        is(three.book(0, 1, 12, 8, 12), 4);
        is(three.book(0, 1, 22, 12, 12), 5);
        says("of this room: another room's bookings are not looked at");
        three.addRoom(1, 1, 1, 1);
        is(three.book(1, 1, 0, 12, 12), 6);
        says("a booking that was cancelled leaves its hours free");
        three.cancel(0);
        is(three.book(0, 1, 20, 2, 12), 6);
        says("the hour of now in a booking that has it is not free, the one behind its last is");
        CheckedHall now = hall(1, 20);
        now.book(0, 0, 0, 3, 12);
        now.pass(2);
        fails(STATE, () -> now.book(0, 0, 2, 1, 12));
        is(now.book(0, 0, 3, 1, 12), 1);
        CheckedHall late = hall(1, 20);
        is(late.book(0, 0, 199, 12, 12), 0);
        fails(STATE, () -> late.book(0, 0, 199, 1, 12));
        fails(STATE, () -> late.book(0, 0, 188, 12, 12));
        is(late.book(0, 0, 187, 12, 12), 1);
    }

    /** Twelve bookings, the first of them over. */
    private static void twelve(CheckedHall h) {
        h.addRoom(1, 1, 1, 20);
        h.addGroup();
        for (int b = 0; b < 12; b++) h.book(0, 0, 10 * b, 1, 12);
        h.pass(1);
    }

    private static void bookTwelve() {
        says("IllegalStateException if there are 12 bookings");
        refused(STATE, ActionEdgeTest::twelve, h -> h.book(0, 0, 199, 1, 12));
        CheckedHall h = new CheckedHall();
        twelve(h);
        fails(STATE, () -> h.book(0, 0, 199, 1, 12));
        is(h.about(3), 12);
        says("the last place taken, free again behind cancel and behind undo");
        is(h.cancel(11), 11);
        is(h.book(0, 0, 199, 1, 12), 11);
        fails(STATE, () -> h.book(0, 0, 198, 1, 12));
        h.undo();
        is(h.book(0, 0, 198, 1, 12), 11);
        says("there are 12 bookings, also when all are over");
        h.passTo(199);
        fails(STATE, () -> h.book(0, 0, 199, 1, 12));
    }

    private static void bookOrder() {
        says("book: IndexOutOfBoundsException, then IllegalArgumentException, then IllegalStateException");
        int[][] rooms = {{0, 0}, {1, 0}, {0, 1}, {1, 1}, {-1, -1}};
        int[][] others = {{0, 1, 12}, {0, 0, 12}, {0, 13, 12}, {0, 1, 11}, {0, 1, 26}, {-1, 1, 12}, {200, 1, 12}, {-1, 0, 0}};
        Recipe[] states = {ActionEdgeTest::twelve, h -> {
            h.addRoom(1, 1, 1, 20);
            h.addGroup();
            h.book(0, 0, 1, 1, 12);
            h.pass(1);
        }};
        for (Recipe state : states) {
            for (int[] room : rooms) {
                for (int[] o : others) {
                    int first = o[0] == 0 ? 1 : o[0];
                    boolean index = room[0] != 0 || room[1] != 0;
                    boolean argument = first != 1 || o[1] != 1 || o[2] != 12;
                    refused(index ? INDEX : argument ? ARGUMENT : STATE, state, h -> h.book(room[0], room[1], first, o[1], o[2]));
                }
            }
        }
    }

    private static void cancelWhen() {
        says("cancel: IndexOutOfBoundsException if there is no such booking");
        for (int b : new int[] {-1, 12, NONE, MIN, MAX}) refused(INDEX, ActionEdgeTest::twelve, h -> h.cancel(b));
        refused(INDEX, h -> h.addGroup(), h -> h.cancel(0));
        says("cancels a booking .. whose first hour did not go by: the hour of now may be its first");
        CheckedHall now = hall(1, 20);
        now.book(0, 0, 1, 3, 12);
        is(now.cancel(0), 0);
        now.undo();
        now.pass(1);
        is(now.cancel(0), 0);
        now.undo();
        now.prove(0, true);
        is(now.cancel(0), 0);
        now.undo();
        is(now.booking(0, 7), 1);
        now.pass(1);
        fails(STATE, () -> now.cancel(0));
        now.pass(2);
        fails(STATE, () -> now.cancel(0));
        says("IllegalStateException if .. its first hour went by");
        refused(STATE, h -> {
            h.addRoom(1, 1, 1, 20);
            h.addGroup();
            h.book(0, 0, 0, 2, 12);
            h.pass(1);
        }, h -> h.cancel(0));
        says("IllegalStateException if it has been preheated: in one hour, and in its first hour, too");
        Recipe preheated = h -> {
            h.addRoom(1, 1, 1, 10);
            h.addGroup();
            h.book(0, 0, 3, 1, 12);
            h.pass(2);
        };
        refused(STATE, preheated, h -> h.cancel(0));
        CheckedHall one = new CheckedHall();
        preheated.make(one);
        is(one.booking(0, 5), 1);
        one.pass(1);
        fails(STATE, () -> one.cancel(0));
        says("a booking that has not been heated for: the hour ahead of its preheating");
        CheckedHall none = hall(1, 10);
        none.book(0, 0, 3, 1, 12);
        none.pass(1);
        is(none.room(0, 6), 0);
        is(none.cancel(0), 0);
    }

    private static void cancelNumbers() {
        says("those behind it get numbers that are smaller by 1. Returns the number of bookings then.");
        for (int gone = 1; gone < 12; gone++) {
            CheckedHall h = new CheckedHall();
            twelve(h);
            is(h.cancel(gone), 11);
            is(h.about(3), 11);
            for (int b = 0; b < 11; b++) is(h.booking(b, 2), 10 * (b < gone ? b : b + 1));
            fails(INDEX, () -> h.booking(11, 2));
        }
        says("those behind it keep what was told and heated of them, and marks");
        CheckedHall h = hall(1, 10);
        h.addRoom(1, 1, 1, 10);
        h.book(0, 0, 100, 1, 12);
        h.book(0, 0, 2, 3, 18);
        h.book(1, 1, 3, 2, 19);
        h.pass(3);
        h.prove(0, true);
        h.prove(1, true);
        String[] of = new String[3];
        for (int b = 1; b <= 2; b++) of[b] = numbers(h, b);
        is(h.cancel(0), 2);
        for (int b = 1; b <= 2; b++) same("booking " + b, numbers(h, b - 1), of[b]);
        is(h.room(0, 4), 0);
        is(h.room(1, 4), 1);
        is(h.room(0, 5), NONE);
        h.undo();
        is(h.about(3), 3);
        for (int b = 1; b <= 2; b++) same("booking " + b, numbers(h, b), of[b]);
        says("cancelled down to none, and booked up to twelve again");
        CheckedHall all = new CheckedHall();
        all.addRoom(1, 1, 1, 20);
        all.addGroup();
        for (int b = 0; b < 12; b++) all.book(0, 0, 10 * b, 1, 12);
        for (int left = 11; left >= 0; left--) is(all.cancel(left % 3 == 0 ? 0 : left), left);
        is(all.about(3), 0);
        is(all.coldest(), NONE);
        for (int b = 0; b < 12; b++) is(all.book(0, 0, 3 * b, 1, 13), b);
        for (int b = 0; b < 12; b++) is(all.booking(b, 2), 3 * b);
    }

    private static String numbers(CheckedHall h, int b) {
        StringBuilder s = new StringBuilder();
        for (int w = 0; w <= 9; w++) s.append(h.booking(b, w)).append(' ');
        return s.toString();
    }

    private static void prove() {
        says("prove: IndexOutOfBoundsException if there is no such room");
        for (int r : new int[] {-1, 1, 4, NONE, MIN, MAX}) {
            refused(INDEX, ActionEdgeTest::twelve, h -> h.prove(r, true));
            refused(INDEX, ActionEdgeTest::twelve, h -> h.prove(r, false));
        }
        refused(INDEX, h -> h.addGroup(), h -> h.prove(0, true));
        says("IllegalStateException if no booking of this room has the hour of now: the hours ahead of its first and behind its last");
        for (int hour = 0; hour <= 6; hour++) {
            int now = hour;
            Recipe state = h -> {
                h.addRoom(1, 1, 1, 10);
                h.addRoom(1, 1, 1, 10);
                h.addGroup();
                h.book(1, 0, 40, 1, 12);
                h.book(0, 0, 2, 3, 25);
                h.passTo(now);
            };
            CheckedHall h = new CheckedHall();
            state.make(h);
            if (now < 2 || now > 4) {
                refused(STATE, state, x -> x.prove(0, true));
                refused(STATE, state, x -> x.prove(0, false));
            } else {
                is(h.prove(0, false), 1);
                is(h.booking(1, 7), 0);
                is(h.prove(0, true), 1);
                is(h.booking(1, 7), 1);
                is(h.prove(0, true), 1);
                is(h.booking(1, 7), 1);
                is(h.prove(0, false), 1);
                is(h.booking(1, 7), 0);
                is(h.booking(0, 7), 0);
            }
            fails(STATE, () -> h.prove(1, true));
        }
    }

    private static void outside() {
        says("t: -20 to 25. Returns the previous one.");
        CheckedHall h = new CheckedHall();
        int previous = 5;
        for (int t = -20; t <= 25; t++) {
            is(h.outside(t), previous);
            is(h.about(4), t);
            is(h.outside(t), t);
            previous = t;
        }
        is(h.outside(-20), 25);
        says("outside: IllegalArgumentException if t is out of range");
        for (int t : new int[] {-21, 26, MIN, MAX}) {
            refused(ARGUMENT, x -> x.outside(-20), x -> x.outside(t));
            refused(ARGUMENT, x -> x.outside(25), x -> x.outside(t));
        }
    }

    private static void pay() {
        says("pay: IndexOutOfBoundsException if there is no such group");
        for (int g : new int[] {-1, 1, 6, NONE, MIN, MAX}) refused(INDEX, ActionEdgeTest::twelve, h -> h.pay(g));
        refused(INDEX, h -> h.addRoom(1, 1, 1, 1), h -> h.pay(0));
        says("A group pays what it owes. Returns the units that it owed.");
        CheckedHall h = hall(9, 10);
        h.book(0, 1, 0, 1, 18);
        is(h.pay(1), 0);
        h.pass(1);
        is(h.pay(0), 0);
        is(h.owes(1), 8);
        is(h.pay(1), 8);
        is(h.owes(1), 0);
        is(h.pay(1), 0);
        is(h.about(5), 9);
        is(h.about(6), 8);
        is(h.about(8), 1);
        CheckedHall six = new CheckedHall();
        for (int g = 0; g < 6; g++) six.addGroup();
        is(six.pay(5), 0);
        fails(INDEX, () -> six.pay(6));
        says("a group that owes less than 0, as half of a debt that it paid moved on");
        CheckedHall below = hall(9, 4);
        below.book(0, 0, 1, 1, 12);
        below.book(0, 1, 2, 1, 12);
        below.pass(1);
        is(below.pay(0), 8);
        below.pass(1);
        is(below.owes(0), -4);
        is(below.pay(0), -4);
        is(below.owes(0), 0);
        is(below.pay(1), 4);
    }

    private static void pass() {
        says("hours: 1 to 48");
        for (int hours = 1; hours <= 48; hours++) {
            CheckedHall h = hall(1, 20);
            is(h.pass(hours), 0);
            is(h.about(0), hours);
        }
        int[] bad = {0, 49, -1, 240, MIN, MAX};
        for (int hours : bad) refused(ARGUMENT, ActionEdgeTest::twelve, h -> h.pass(hours));
        says("pass: IllegalArgumentException is named ahead of IllegalStateException");
        for (int hours : bad) {
            refused(ARGUMENT, h -> h.passTo(240), h -> h.pass(hours));
            refused(ARGUMENT, h -> h.passTo(239), h -> h.pass(hours));
        }
        says("IllegalStateException if the hour of now would become more than 240");
        for (int now : new int[] {192, 193, 200, 238, 239, 240}) {
            for (int hours : new int[] {1, 2, 240 - now, 241 - now, 48}) {
                if (hours < 1 || hours > 48) continue;
                if (now + hours > 240) {
                    refused(STATE, h -> h.passTo(now), h -> h.pass(hours));
                } else {
                    CheckedHall h = hall(1, 20);
                    h.passTo(now);
                    is(h.pass(hours), 0);
                    is(h.about(0), now + hours);
                }
            }
        }
    }

    private static void passUnits() {
        says("pass returns the units that the meter counts in them: the pilot flame's, too, and not those of before");
        CheckedHall h = hall(1, 10);
        h.book(0, 0, 0, 12, 25);
        is(h.pass(1), 2);
        is(h.pass(1), 2);
        is(h.pass(3), 6);
        is(h.about(5), 10);
        is(h.pass(48), 14);
        is(h.about(5), 24);
        says("hours that go by at once are as hours that go by one by one");
        String text = "Hr12304r56730r99900r11115ggggg" + "b000000220b010020818b320140225b230060322b140060112b100401225";
        CheckedHall once = CheckedHall.loaded(text);
        CheckedHall each = CheckedHall.loaded(text);
        once.prove(0, true);
        each.prove(0, true);
        int units = 0;
        for (int i = 0; i < 48; i++) units += each.pass(1);
        is(once.pass(48), units);
        same("all", once.all(), each.all());
    }

    /** A state ahead of which nothing is remembered: room 0 has a booking now, room 1 has one later. */
    private static CheckedHall fresh() {
        return CheckedHall.loaded("Hr11110r22210ggb000000425b111000425");
    }

    private static void isAction(String what, CallOn call) {
        CheckedHall h = fresh();
        fails(STATE, h::undo);
        String before = h.all();
        call.answer(h);
        is("undo behind " + what, h.undo(), 0);
        same("all behind undo of " + what, h.all(), before);
        fails("another undo behind " + what, STATE, h::undo);
    }

    private static void eachIsAnAction() {
        says("Each call of one of them that does not throw an exception is an action");
        isAction("addRoom", h -> h.addRoom(1, 2, 3, 4));
        isAction("addGroup", CheckedHall::addGroup);
        isAction("book", h -> h.book(1, 0, 9, 1, 12));
        isAction("cancel", h -> h.cancel(1));
        isAction("cancel of the first", h -> h.cancel(0));
        isAction("prove", h -> h.prove(0, true));
        isAction("outside", h -> h.outside(-20));
        isAction("pass", h -> h.pass(1));
        isAction("pass(48)", h -> h.pass(48));
        says("also if nothing becomes different");
        isAction("outside, the same", h -> h.outside(5));
        isAction("pay of nothing", h -> h.pay(1));
        isAction("prove, not marked before", h -> h.prove(0, false));
        CheckedHall h = fresh();
        h.pass(1);
        h.pay(0);
        h.pay(0);
        h.prove(0, true);
        h.prove(0, true);
        h.prove(0, false);
        h.prove(0, false);
        h.outside(5);
        for (int left = 7; left >= 0; left--) is(h.undo(), left);
        fails(STATE, h::undo);
    }

    private static void noActions() {
        says("(undo is none)");
        CheckedHall h = fresh();
        h.outside(1);
        h.outside(2);
        is(h.undo(), 1);
        is(h.about(4), 1);
        is(h.undo(), 0);
        is(h.about(4), 5);
        says("load and restore are not actions.");
        CheckedHall other = fresh();
        other.save(0);
        other.restore(0);
        fails(STATE, other::undo);
        other.load();
        fails(STATE, other::undo);
        says("the other methods are no actions, and leave what is remembered, the text and the save slots");
        Recipe used = x -> {
            x.type("Hr11110r22210ggb000000425b110100425");
            x.load();
            x.save(1);
            x.pass(2);
            x.prove(0, true);
            x.outside(3);
        };
        CallOn[] calls = {CheckedHall::errorPosition, x -> x.about(0), x -> x.about(9), x -> x.room(0, 6), x -> x.owes(0),
            x -> x.booking(0, 7), x -> x.later(0, 48), x -> x.begins(1), x -> x.cost(0, 1, 150, 12, 25), x -> x.willOwe(0),
            CheckedHall::coldest, x -> x.runScript(3, 10009_20120_30000L), x -> x.runScript(3, 40000_50100_10048L),
            x -> x.simulate(7, 99)};
        for (CallOn call : calls) leavesAll(used, call);
        for (int look : new int[] {STATE_ITSELF, REMEMBERED, SLOT_0, SLOT_1}) {
            leaves(used, x -> x.append('g'), look);
            leaves(used, CheckedHall::clearText, look);
        }
        for (int look : new int[] {STATE_ITSELF, REMEMBERED, TEXT, SLOT_1}) leaves(used, x -> x.save(0), look);
        for (int look : new int[] {TEXT, SLOT_0, SLOT_1}) {
            leaves(used, x -> x.restore(1), look);
            leaves(used, x -> x.pass(1), look);
            leaves(used, CheckedHall::undo, look);
        }
        says("state .. consists of everything but the text and the save slots: undo takes neither back");
        CheckedHall kept = fresh();
        kept.outside(1);
        kept.append('x');
        kept.save(0);
        kept.undo();
        is(kept.clearText(), 36);
        kept.restore(0);
        is(kept.about(4), 1);
    }

    private static void fourteenStates() {
        says("At most 14 states are remembered; when one more is remembered, the oldest one is forgotten.");
        for (int actions = 0; actions <= 46; actions++) {
            CheckedHall h = new CheckedHall();
            for (int i = 0; i < actions; i++) h.outside(i - 20);
            int left = Math.min(actions, 14);
            for (int i = 1; i <= Math.min(actions, 14); i++) {
                left--;
                is(h.undo(), left);
                int before = actions - i - 1;
                is(h.about(4), before < 0 ? 5 : before - 20);
            }
            fails(STATE, h::undo);
            is(h.about(4), actions <= 14 ? 5 : actions - 35);
        }
        says("14 states, some of them taken back and others remembered in their place");
        for (int back = 1; back <= 14; back++) {
            CheckedHall h = new CheckedHall();
            for (int i = 1; i <= 20; i++) h.outside(i);
            for (int i = 1; i <= back; i++) is(h.undo(), 14 - i);
            for (int i = 1; i <= back + 2; i++) h.outside(-i);
            for (int i = 1; i <= 14; i++) {
                is(h.undo(), 14 - i);
                int left = back + 2 - i;
                is(h.about(4), left > 0 ? -left : 20 - back + left);
            }
            fails(STATE, h::undo);
        }
    }

    private static void undoTakesBack() {
        says("IllegalStateException if none is remembered");
        refused(STATE, h -> {
        }, CheckedHall::undo);
        refused(STATE, h -> {
            h.addGroup();
            h.undo();
        }, CheckedHall::undo);
        refused(STATE, h -> {
            for (int i = 0; i < 15; i++) h.outside(i);
            for (int i = 0; i < 14; i++) h.undo();
        }, CheckedHall::undo);
        says("a call that throws is no action: nothing more is remembered, and nothing is forgotten");
        CheckedHall full = new CheckedHall();
        for (int i = 1; i <= 14; i++) full.outside(i);
        for (int i = 0; i < 20; i++) fails(ARGUMENT, () -> full.outside(26));
        for (int i = 13; i >= 0; i--) is(full.undo(), i);
        is(full.about(4), 5);
        says("Takes back the last action that is remembered: also one that lets 48 hours go by");
        CheckedHall h = CheckedHall.loaded("Hr99900r23410ggb000000325b010030225b110101212b101991225");
        h.prove(0, true);
        String before = h.all();
        h.pass(48);
        String behind = h.all();
        is(h.undo(), 1);
        same("all", h.all(), before);
        h.pass(48);
        same("all", h.all(), behind);
    }

    private static void save() {
        says("save: IndexOutOfBoundsException if there is no such save slot: slot: 0 or 1");
        for (int slot : new int[] {-1, 2, NONE, MIN, MAX}) {
            refused(INDEX, ActionEdgeTest::twelve, h -> h.save(slot));
            refused(INDEX, h -> {
                h.save(0);
                h.save(1);
                h.pass(3);
            }, h -> h.save(slot));
        }
        says("Stores the present state in a save slot. Returns the hour of now.");
        CheckedHall h = new CheckedHall();
        is(h.save(0), 0);
        h.pass(48);
        is(h.save(1), 48);
        h.passTo(240);
        is(h.save(0), 240);
        is(h.restore(1), 48);
        is(h.restore(0), 240);
        is(h.save(1), 240);
        is(h.restore(1), 240);
        says("a save slot, saved over, holds the last state that was saved in it, with marks");
        CheckedHall over = fresh();
        over.save(0);
        over.prove(0, true);
        over.save(0);
        over.prove(0, false);
        over.outside(25);
        over.pass(9);
        over.restore(0);
        is(over.booking(0, 7), 1);
        is(over.about(4), 5);
        is(over.about(0), 0);
        says("a save slot is not changed by what comes behind the save");
        CheckedHall kept = fresh();
        kept.pass(2);
        kept.save(1);
        String saved = kept.all();
        kept.cancel(1);
        kept.addRoom(9, 9, 9, 9);
        kept.addGroup();
        kept.book(2, 2, 3, 3, 25);
        kept.pass(10);
        kept.pay(0);
        kept.simulate(1, 99);
        is(kept.restore(1), 2);
        same("all", kept.all(), saved);
    }

    private static void restore() {
        says("restore: IndexOutOfBoundsException is named ahead of IllegalStateException");
        for (int slot : new int[] {-1, 2, NONE, MIN, MAX}) {
            refused(INDEX, ActionEdgeTest::twelve, h -> h.restore(slot));
            refused(INDEX, h -> {
                h.save(0);
                h.save(1);
                h.pass(3);
            }, h -> h.restore(slot));
        }
        says("IllegalStateException if nothing has been saved in it since the last load");
        for (int slot = 0; slot <= 1; slot++) {
            int s = slot;
            refused(STATE, ActionEdgeTest::twelve, h -> h.restore(s));
            refused(STATE, h -> {
                twelve(h);
                h.save(1 - s);
            }, h -> h.restore(s));
            refused(STATE, h -> {
                h.save(0);
                h.save(1);
                h.type("Hg");
                h.load();
                h.addGroup();
            }, h -> h.restore(s));
        }
        CheckedHall failed = fresh();
        failed.save(0);
        failed.append('x');
        fails(STATE, failed::load);
        is(failed.restore(0), 0);
        says("and forgets all remembered states.");
        CheckedHall h = new CheckedHall();
        h.save(0);
        for (int i = 0; i < 20; i++) h.outside(i);
        h.save(1);
        is(h.restore(1), 0);
        fails(STATE, h::undo);
        h.outside(-1);
        is(h.undo(), 0);
        is(h.about(4), 19);
        fails(STATE, h::undo);
        is(h.restore(0), 0);
        is(h.about(4), 5);
        fails(STATE, h::undo);
        for (int i = 1; i <= 16; i++) h.outside(i);
        for (int i = 13; i >= 0; i--) is(h.undo(), i);
        is(h.about(4), 2);
        says("The save slot keeps it.");
        for (int i = 0; i < 3; i++) {
            is(h.restore(1), 0);
            is(h.about(4), 19);
            h.pass(5);
        }
        says("Replaces the state: nothing of the one before is left");
        CheckedHall small = new CheckedHall();
        small.save(0);
        small.type("Hr99930r99930r99930r99930ggggggb000000125b150000125o-20");
        twelve(small);
        small.outside(25);
        is(small.restore(0), 0);
        same("all", small.all(), "0 0 0 0 5 0 0 0 0 0 ");
        small.addRoom(1, 1, 1, 12);
        small.addGroup();
        small.book(0, 0, 1, 1, 12);
        same("all", small.all(), "0 1 1 1 5 0 0 0 0 0 1 1 1 12 -99 0 -99 0 0 0 1 1 12 0 0 0 0 0 ");
        is(small.clearText(), 55);
    }
}

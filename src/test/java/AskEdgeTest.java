/** The edges that the document names in the promises 19 to 25: what would be, scripts, simulations. */
public final class AskEdgeTest extends Checks {
    private static final int MIN = Integer.MIN_VALUE;
    private static final int MAX = Integer.MAX_VALUE;

    public static void main(String[] args) {
        later();
        begins();
        costArguments();
        costNone();
        cost();
        willOwe();
        coldest();
        scriptArguments();
        scriptOrder();
        everyCommand();
        scriptEffects();
        scriptLimits();
        simulateArguments();
        simulate();
        end("AskEdgeTest");
    }

    /** One room of size 1 that keeps its temperature (loss 1), and two groups. */
    private static CheckedHall hall(int power, int t) {
        CheckedHall h = new CheckedHall();
        h.addRoom(1, 1, power, t);
        h.addGroup();
        h.addGroup();
        return h;
    }

    /** 4 rooms, 6 groups, 12 bookings; over, marked, preheated and untouched ones; the hour 6, 14 states, both slots. */
    private static void used(CheckedHall h) {
        h.type("Hr12304r56730r99900r11115ggggg" + "b000000220b010020818b320140225b230060322b140060112"
            + "b100401225b200501225b311991212b021000113");
        h.load();
        h.addGroup();
        for (int i = 0; i < 3; i++) h.book(i, 5, 110 + 10 * i, 1 + i, 14 + i);
        h.save(0);
        for (int i = 0; i < 5; i++) {
            h.prove(0, i % 2 == 0);
            h.pass(1);
        }
        h.save(1);
        h.outside(-3);
        h.pass(1);
        h.prove(0, true);
        h.pay(0);
    }

    private static void later() {
        says("later: IndexOutOfBoundsException if there is no such room");
        for (int r : new int[] {-1, 4, NONE, MIN, MAX}) refused(INDEX, AskEdgeTest::used, h -> h.later(r, 1));
        says("hours: 0 to 48");
        for (int hours : new int[] {-1, 49, MIN, MAX}) {
            refused(ARGUMENT, AskEdgeTest::used, h -> h.later(0, hours));
            refused(ARGUMENT, AskEdgeTest::used, h -> h.later(3, hours));
        }
        says("later: IndexOutOfBoundsException is named ahead of IllegalArgumentException");
        for (int hours : new int[] {-1, 49, MIN, MAX}) {
            refused(INDEX, AskEdgeTest::used, h -> h.later(4, hours));
            refused(INDEX, AskEdgeTest::used, h -> h.later(-1, hours));
        }
        says("Returns its temperature after so many hours.");
        CheckedHall h = new CheckedHall();
        used(h);
        int[][] told = new int[4][49];
        for (int r = 0; r < 4; r++) {
            is(h.later(r, 0), h.room(r, 3));
            for (int hours = 0; hours <= 48; hours++) told[r][hours] = h.later(r, hours);
        }
        CheckedHall same = new CheckedHall();
        used(same);
        for (int hours = 0; hours <= 48; hours++) {
            for (int r = 0; r < 4; r++) is("later(" + r + ", " + hours + ")", told[r][hours], same.room(r, 3));
            same.pass(1);
        }
        leavesAll(AskEdgeTest::used, x -> x.later(0, 0));
        leavesAll(AskEdgeTest::used, x -> x.later(3, 48));
        says("also beyond the hour 240");
        CheckedHall end = new CheckedHall();
        end.addRoom(1, 9, 1, 30);
        end.outside(-20);
        end.passTo(240);
        is(end.room(0, 3), -9);
        end.addRoom(1, 9, 1, 30);
        int[] falling = {30, 26, 22, 19, 16, 13, 11, 9, 7, 5, 3, 1, 0, -1, -2, -3, -4, -5, -6, -7, -8, -9, -9};
        for (int hours = 0; hours < falling.length; hours++) is(end.later(1, hours), falling[hours]);
        is(end.later(1, 48), -9);
        is(end.about(0), 240);
        fails(STATE, () -> end.pass(1));
        CheckedHall near = new CheckedHall();
        near.passTo(239);
        near.addRoom(1, 9, 1, 30);
        near.outside(-20);
        is(near.later(0, 1), 26);
        is(near.later(0, 2), 22);
    }

    private static void begins() {
        says("begins: IndexOutOfBoundsException if there is no such booking");
        for (int b : new int[] {-1, 12, NONE, MIN, MAX}) refused(INDEX, AskEdgeTest::used, h -> h.begins(b));
        refused(INDEX, h -> h.addGroup(), h -> h.begins(0));
        for (int b = 0; b < 12; b++) {
            int each = b;
            leavesAll(AskEdgeTest::used, h -> h.begins(each));
        }
        says("the first hour, from the hour of now on, in which it heats its room; NONE if it is over");
        CheckedHall h = hall(1, 10);
        h.book(0, 0, 8, 3, 15);
        for (int hour = 0; hour <= 14; hour++) {
            is(h.begins(0), hour > 10 ? NONE : Math.max(hour, 3));
            h.pass(1);
        }
        h.passTo(240);
        is(h.begins(0), NONE);
        says("(an hour in which nothing is missing counts, too, as its booking is the one that heats)");
        CheckedHall warm = hall(1, 20);
        warm.book(0, 0, 8, 12, 12);
        for (int hour = 0; hour <= 20; hour++) {
            is(warm.begins(0), hour > 19 ? NONE : Math.max(hour, 8));
            warm.pass(1);
        }
        says("the latest: in the hour of now, and hours ahead of its first");
        CheckedHall late = hall(1, 10);
        late.book(0, 0, 199, 12, 25);
        is(late.begins(0), 184);
        late.passTo(210);
        is(late.begins(0), 210);
        late.pass(1);
        is(late.begins(0), NONE);
        CheckedHall now = hall(1, 10);
        now.book(0, 0, 0, 1, 12);
        is(now.begins(0), 0);
        now.book(0, 0, 1, 1, 25);
        is(now.begins(1), 1);
        says("begins: behind another booking, which heats its own hours");
        CheckedHall behind = hall(1, 10);
        behind.book(0, 0, 9, 1, 25);
        is(behind.begins(0), 0);
        behind.book(0, 1, 4, 3, 12);
        is(behind.begins(1), 2);
        is(behind.begins(0), 7);
        says("begins: of its room, and of this booking");
        CheckedHall rooms = hall(1, 10);
        rooms.addRoom(1, 1, 9, 10);
        rooms.book(1, 0, 8, 1, 15);
        rooms.book(0, 0, 8, 1, 15);
        is(rooms.begins(0), 7);
        is(rooms.begins(1), 3);
    }

    private static void costArguments() {
        says("cost: IndexOutOfBoundsException if there is no such room or group");
        Recipe one = h -> {
            h.addRoom(1, 1, 1, 10);
            h.addGroup();
            h.pass(3);
        };
        for (int i : new int[] {-1, 1, 6, NONE, MIN, MAX}) {
            refused(INDEX, one, h -> h.cost(i, 0, 3, 1, 12));
            refused(INDEX, one, h -> h.cost(0, i, 3, 1, 12));
            refused(INDEX, one, h -> h.cost(i, i, 3, 1, 12));
        }
        says("cost: IllegalArgumentException if another argument is out of its range as in book()");
        int[][] bad = {{2, 1, 12}, {-1, 1, 12}, {200, 1, 12}, {MIN, 1, 12}, {MAX, 1, 12}, {3, 0, 12}, {3, 13, 12}, {3, MIN, 12},
            {3, MAX, 12}, {3, 1, 11}, {3, 1, 26}, {3, 1, MIN}, {3, 1, MAX}};
        for (int[] b : bad) refused(ARGUMENT, one, h -> h.cost(0, 0, b[0], b[1], b[2]));
        says("cost: IndexOutOfBoundsException is named ahead of IllegalArgumentException, and both come ahead of NONE");
        for (int[] b : bad) {
            refused(INDEX, one, h -> h.cost(1, 0, b[0], b[1], b[2]));
            refused(INDEX, one, h -> h.cost(0, 1, b[0], b[1], b[2]));
            if (b[0] == 3) refused(ARGUMENT, AskEdgeTest::used, h -> h.cost(0, 0, 6, b[1], b[2]));
        }
        refused(INDEX, AskEdgeTest::used, h -> h.cost(4, 0, 6, 1, 12));
        refused(INDEX, AskEdgeTest::used, h -> h.cost(0, 6, 6, 1, 12));
        refused(ARGUMENT, AskEdgeTest::used, h -> h.cost(0, 0, 5, 1, 12));
        refused(ARGUMENT, AskEdgeTest::used, h -> h.cost(0, 0, 200, 1, 12));
        says("cost: the first hours, hours and temperatures that are allowed");
        for (int now : new int[] {0, 1, 198, 199}) {
            CheckedHall h = hall(1, 30);
            h.passTo(now);
            for (int first : new int[] {now, 199}) {
                for (int hours : new int[] {1, 12}) for (int t : new int[] {12, 25}) is(h.cost(0, 1, first, hours, t), 0);
            }
            fails(ARGUMENT, () -> h.cost(0, 0, now - 1, 1, 12));
            fails(ARGUMENT, () -> h.cost(0, 0, 200, 1, 12));
        }
        for (int now : new int[] {200, 240}) {
            CheckedHall h = hall(1, 30);
            h.passTo(now);
            for (int first : new int[] {199, 200, now}) fails(ARGUMENT, () -> h.cost(0, 0, first, 1, 12));
        }
    }

    private static void costNone() {
        says("NONE if book() would throw IllegalStateException for it: hours together");
        CheckedHall h = hall(1, 30);
        h.book(0, 0, 50, 3, 12);
        for (int first = 36; first <= 55; first++) {
            for (int hours : new int[] {1, 2, 3, 4, 11, 12}) {
                is(h.cost(0, 1, first, hours, 12), first <= 52 && first + hours - 1 >= 50 ? NONE : 0);
            }
        }
        says("NONE if book() would throw IllegalStateException for it: 12 bookings");
        CheckedHall many = hall(1, 30);
        for (int b = 0; b < 11; b++) many.book(0, 0, 10 * b, 1, 12);
        is(many.cost(0, 0, 199, 12, 25), 0);
        many.book(0, 0, 110, 1, 12);
        is(many.cost(0, 0, 199, 12, 25), NONE);
        many.passTo(120);
        is(many.cost(0, 0, 199, 12, 25), NONE);
        many.undo();
        many.undo();
        many.undo();
        many.undo();
        is(many.about(3), 11);
        is(many.cost(0, 0, 199, 12, 25), 0);
    }

    private static void cost() {
        says("what the meter counts up to the end of the booking (its last hour included ..)");
        CheckedHall h = hall(1, 10);
        is(h.cost(0, 0, 0, 1, 12), 2);
        is(h.cost(0, 0, 0, 2, 12), 4);
        is(h.cost(0, 0, 0, 3, 12), 4);
        is(h.cost(0, 0, 0, 12, 25), 24);
        is(h.cost(0, 0, 199, 12, 25), 30);
        is(h.cost(0, 0, 199, 1, 25), 30);
        is(h.cost(0, 1, 1, 1, 25), 4);
        says("up to the end of the booking: what it spares a later one is not counted");
        h.book(0, 1, 20, 1, 25);
        is(h.cost(0, 0, 0, 2, 12), 4);
        is(h.cost(0, 0, 0, 2, 25), 4);
        says("would be more with this booking than without it (less, if it is below 0)");
        h.passTo(7);
        is(h.room(0, 3), 12);
        is(h.cost(0, 0, 9, 1, 12), -6);
        is(h.cost(0, 0, 7, 12, 12), -24);
        is(h.cost(0, 0, 8, 12, 13), 2 - 2 * 13);
        is(h.cost(0, 0, 21, 1, 25), 0);
        says("just as much: 0");
        CheckedHall none = hall(1, 20);
        is(none.cost(0, 0, 0, 12, 20), 0);
        is(none.cost(0, 0, 0, 1, 21), 2);
        says("the pilot flame that burns for another room costs nothing more");
        CheckedHall flame = hall(1, 10);
        flame.addRoom(2, 1, 1, 10);
        flame.book(0, 0, 0, 1, 25);
        is(flame.cost(1, 0, 0, 1, 12), 2);
        is(flame.cost(1, 0, 0, 2, 12), 2 + 2 + 1);
        for (int first : new int[] {6, 7, 42, 150, 199}) leavesAll(AskEdgeTest::used, x -> x.cost(0, 5, first, 12, 25));
        leavesAll(h1 -> {
            h1.addRoom(1, 1, 1, 10);
            h1.addGroup();
            h1.book(0, 0, 20, 1, 25);
            h1.pass(7);
        }, x -> x.cost(0, 0, 8, 12, 13));
    }

    private static void willOwe() {
        says("willOwe: IndexOutOfBoundsException if there is no such group");
        for (int g : new int[] {-1, 6, NONE, MIN, MAX}) refused(INDEX, AskEdgeTest::used, h -> h.willOwe(g));
        refused(INDEX, h -> h.addRoom(1, 1, 1, 1), h -> h.willOwe(0));
        for (int g = 0; g < 6; g++) {
            int each = g;
            leavesAll(AskEdgeTest::used, h -> h.willOwe(each));
        }
        says("what it owes when all bookings are over: without bookings, and when they are over, what it owes");
        CheckedHall h = hall(1, 10);
        is(h.willOwe(0), 0);
        is(h.willOwe(1), 0);
        h.book(0, 0, 0, 3, 25);
        is(h.willOwe(0), 3);
        h.pass(2);
        is(h.willOwe(0), 3);
        h.pay(0);
        is(h.willOwe(0), 1);
        h.pass(1);
        is(h.willOwe(0), 1);
        h.passTo(240);
        is(h.willOwe(0), 1);
        h.pay(0);
        is(h.willOwe(0), 0);
        says("when all bookings are over: the last hour of the latest one");
        CheckedHall late = hall(1, 10);
        late.book(0, 0, 199, 12, 25);
        late.book(0, 1, 0, 1, 12);
        is(late.willOwe(0), 14);
        is(late.willOwe(1), 1);
        CheckedHall last = hall(1, 10);
        last.addRoom(1, 9, 4, 25);
        last.outside(-20);
        last.book(1, 0, 199, 12, 25);
        CheckedHall gone = hall(1, 10);
        gone.addRoom(1, 9, 4, 25);
        gone.outside(-20);
        gone.book(1, 0, 199, 12, 25);
        gone.passTo(211);
        is(last.willOwe(0), gone.owes(0));
        gone.undo();
        is(last.willOwe(0) > gone.owes(0) ? 1 : 0, 1);
        says("all else being as it is now, marks, too: the mark for the hour of now, which is gone behind it");
        CheckedHall marked = hall(1, 10);
        marked.book(0, 0, 0, 3, 25);
        marked.prove(0, true);
        is(marked.willOwe(0), 2);
        marked.prove(0, false);
        is(marked.willOwe(0), 3);
        says("what a group will owe with half of a preheat debt, below 0, too");
        CheckedHall half = hall(9, 4);
        half.book(0, 0, 1, 1, 12);
        half.book(0, 1, 2, 1, 12);
        is(half.willOwe(0), 4);
        is(half.willOwe(1), 4);
        half.pass(1);
        half.pay(0);
        is(half.willOwe(0), -4);
        is(half.willOwe(1), 4);
    }

    private static void coldest() {
        says("NONE without bookings");
        CheckedHall h = hall(1, 10);
        is(h.coldest(), NONE);
        h.book(0, 0, 0, 1, 12);
        is(h.coldest(), 0);
        h.cancel(0);
        is(h.coldest(), NONE);
        says("among several the smallest number: all have 0");
        CheckedHall warm = hall(1, 30);
        for (int b = 0; b < 12; b++) {
            warm.book(0, 0, 12 * b, 12 - 3 * (b % 4), 25);
            is(warm.coldest(), 0);
        }
        says("the greatest booking(b, 8) when all bookings are over: each place, and the last of twelve");
        for (int cold = 0; cold < 12; cold++) {
            CheckedHall each = new CheckedHall();
            for (int r = 0; r < 4; r++) each.addRoom(1, 1, 1, 10);
            each.addGroup();
            for (int b = 0; b < 12; b++) each.book(b % 4, 0, 60 * (b / 4), b == cold ? 3 : 1, 25);
            for (int r = 0; r < 4; r++) is(each.booking(r, 0), r);
            is(each.coldest(), cold < 4 ? cold : 0);
            each.pass(1);
            is(each.coldest(), cold < 4 ? cold : 0);
        }
        CheckedHall last = hall(1, 30);
        last.addRoom(1, 1, 1, 10);
        for (int b = 0; b < 11; b++) last.book(0, 0, 10 * b, 1, 25);
        last.book(1, 0, 199, 12, 12);
        is(last.coldest(), 0);
        last.cancel(11);
        last.book(1, 0, 0, 1, 12);
        is(last.coldest(), 11);
        says("among several the smallest number: two with as many");
        CheckedHall two = hall(1, 30);
        two.addRoom(1, 1, 1, 10);
        two.addRoom(1, 1, 1, 10);
        two.book(0, 0, 0, 12, 25);
        two.book(1, 0, 0, 2, 25);
        two.book(2, 0, 0, 2, 25);
        is(two.coldest(), 1);
        two.book(2, 0, 2, 3, 25);
        is(two.coldest(), 3);
        two.passTo(240);
        is(two.coldest(), 3);
        is(two.booking(3, 8), 3);
        leavesAll(AskEdgeTest::used, CheckedHall::coldest);
    }

    private static void scriptArguments() {
        says("n: number of commands, 1 to 3");
        for (int n : new int[] {0, 4, -1, MIN, MAX}) {
            for (long script : new long[] {0, 10001, -1, Long.MAX_VALUE}) refused(ARGUMENT, AskEdgeTest::used, h -> h.runScript(n, script));
        }
        says("script is negative or has more than 5 * n digits");
        long[] most = {0, 99999L, 9999999999L, 999999999999999L};
        for (int n = 1; n <= 3; n++) {
            int commands = n;
            long[] more = {most[n] + 1, 10 * most[n] + 9, -1, -most[n], Long.MIN_VALUE, Long.MAX_VALUE};
            for (long script : more) refused(ARGUMENT, AskEdgeTest::used, h -> h.runScript(commands, script));
            CheckedHall h = new CheckedHall();
            used(h);
            is(h.runScript(n, most[n]), 0);
            is(h.runScript(n, 0), 0);
        }
        says("(with zeros before it, if it has fewer digits)");
        CheckedHall h = new CheckedHall();
        used(h);
        is(h.runScript(1, 10001), NONE);
        is(h.runScript(2, 10001), 0);
        is(h.runScript(3, 10001), 0);
        is(h.runScript(3, 10001_10001L), 0);
        is(h.runScript(2, 10001_10001L), NONE);
        is(h.runScript(1, 9999), 0);
        is(h.runScript(1, 1), 0);
    }

    private static void scriptOrder() {
        says("Returns the index, from 0, of the first command that fails; NONE if all succeed.");
        CheckedHall h = hall(1, 20);
        long good = 20010;
        long bad = 20026;
        for (int fails = 0; fails < 8; fails++) {
            long script = 0;
            int first = NONE;
            for (int i = 0; i < 3; i++) {
                boolean one = (fails >> i & 1) == 1;
                if (one && first == NONE) first = i;
                script = script * 100000 + (one ? bad : good);
                is(h.runScript(i + 1, script), first);
            }
        }
    }

    /** Whether a command of five digits succeeds, by what the hall tells of itself. */
    private static final class Facts {
        final int hour;
        final int meter;
        final int[] warm;
        final boolean[] inUse;
        final int[] owed;
        final boolean[] over;
        final boolean[] untouched;

        Facts(CheckedHall h) {
            hour = h.about(0);
            meter = h.about(5);
            warm = new int[h.about(1)];
            inUse = new boolean[warm.length];
            owed = new int[h.about(2)];
            over = new boolean[h.about(3)];
            untouched = new boolean[over.length];
            for (int r = 0; r < warm.length; r++) {
                warm[r] = h.room(r, 3);
                inUse[r] = h.room(r, 4) != NONE;
            }
            for (int g = 0; g < owed.length; g++) owed[g] = h.owes(g);
            for (int b = 0; b < over.length; b++) {
                over[b] = h.booking(b, 9) == 1;
                untouched[b] = h.booking(b, 5) == 0 && hour <= h.booking(b, 2);
            }
        }

        boolean letsSucceed(String d) {
            int second = d.charAt(1) - '0';
            int two = Integer.parseInt(d.substring(1, 3));
            int lastTwo = Integer.parseInt(d.substring(3));
            switch (d.charAt(0)) {
                case '1': return d.startsWith("100") && lastTwo >= 1 && lastTwo <= 48 && hour + lastTwo <= 240;
                case '2': return d.startsWith("200") && lastTwo <= 25 || d.startsWith("201") && lastTwo <= 20;
                case '3': return second < warm.length && inUse[second] && (d.endsWith("000") || d.endsWith("100"));
                case '4': return second < owed.length && d.endsWith("000");
                case '5': return two < over.length && untouched[two] && d.endsWith("00");
                case '6': return second < warm.length && d.charAt(2) == '0' && warm[second] >= lastTwo;
                case '7': return second < owed.length && owed[second] <= Integer.parseInt(d.substring(2));
                case '8': return two < over.length && d.endsWith(over[two] ? "01" : "00");
                case '9': return meter >= Integer.parseInt(d.substring(1));
                default: return false;
            }
        }
    }

    private static void everyCommandIn(String what, Recipe recipe) {
        CheckedHall h = null;
        Facts facts = null;
        for (int command = 0; command <= 99999; command++) {
            if (h == null || h.calls() == CheckedHall.CALL_LIMIT) {
                h = new CheckedHall();
                recipe.make(h);
                facts = facts == null ? new Facts(h) : facts;
            }
            String digits = String.format("%05d", command);
            is(what + ", the command " + digits, h.runScript(1, command), facts.letsSucceed(digits) ? NONE : 0);
        }
    }

    private static void everyCommand() {
        says("each is a group of five decimal digits: all of them, and so does any other group (also one with another digit ..)");
        everyCommandIn("a used hall", AskEdgeTest::used);
        everyCommandIn("a new hall", h -> {
        });
        everyCommandIn("a hall at 230, cold, with over bookings", h -> {
            h.addRoom(9, 9, 9, 10);
            h.addRoom(1, 9, 9, 0);
            h.outside(-20);
            h.addGroup();
            h.addGroup();
            h.book(0, 0, 3, 12, 25);
            h.book(1, 1, 199, 12, 12);
            h.passTo(230);
        });
        says("the room r has at least xy degrees: 0 and below 0");
        for (int t = -2; t <= 2; t++) {
            CheckedHall h = hall(1, t);
            for (int xy = 0; xy <= 3; xy++) is(h.runScript(1, 60000 + xy), t >= xy ? NONE : 0);
        }
        says("the group g owes at most xyz units: also one that owes less than 0");
        CheckedHall below = hall(9, 4);
        below.book(0, 0, 1, 1, 12);
        below.book(0, 1, 2, 1, 12);
        below.pass(1);
        below.pay(0);
        below.pass(1);
        is(below.owes(0), -4);
        is(below.runScript(1, 70000), NONE);
        is(below.runScript(1, 71003), 0);
        is(below.runScript(1, 71004), NONE);
    }

    private static void scriptEffects() {
        says("1 0 0 x y: xy hours go by; 9 x y z u: the meter counted at least xyzu units");
        CheckedHall h = hall(1, 10);
        h.book(0, 0, 0, 2, 25);
        h.book(0, 1, 2, 1, 25);
        h.book(0, 0, 60, 1, 12);
        is(h.runScript(3, 90001_10001_90002L), 0);
        is(h.runScript(3, 10001_90002_90003L), 2);
        is(h.runScript(3, 10003_90006_90007L), 2);
        is(h.runScript(3, 10003_70002_71001L), NONE);
        is(h.runScript(2, 10003_70001L), 1);
        is(h.runScript(3, 10001_80000_80001L), 2);
        is(h.runScript(2, 10002_80001L), NONE);
        is(h.runScript(2, 10003_60013L), NONE);
        is(h.runScript(2, 10003_60014L), 1);
        says("2 0 s x y: the temperature outside becomes xy (s is 0) or -xy (s is 1)");
        CheckedHall out = new CheckedHall();
        out.addRoom(1, 9, 1, 16);
        int[][] effects = {{20000, 15}, {20004, 15}, {20005, 16}, {20025, 16}, {20100, 15}, {20120, 13}};
        for (int[] e : effects) {
            is(out.runScript(3, (e[0] * 100000L + 10001) * 100000 + 60000 + e[1]), NONE);
            is(out.runScript(3, (e[0] * 100000L + 10001) * 100000 + 60001 + e[1]), 2);
        }
        says("3 r m 0 0: prove(r, m is 1)");
        is(h.runScript(3, 30100_10001_70000L), NONE);
        is(h.runScript(3, 30000_10001_70000L), 2);
        h.prove(0, true);
        is(h.runScript(2, 10001_70000L), NONE);
        is(h.runScript(3, 30000_10001_70000L), 2);
        is(h.runScript(2, 10003_30000L), 1);
        is(h.runScript(2, 10003_30100L), 1);
        says("4 g 0 0 0: pay(g)");
        h.prove(0, false);
        is(h.runScript(3, 10003_40000_70000L), NONE);
        is(h.runScript(3, 10003_40000_71000L), 2);
        is(h.runScript(3, 10003_41000_71000L), NONE);
        says("5 b b 0 0: cancel(bb)");
        is(h.runScript(3, 50200_80200_80100L), 1);
        is(h.runScript(3, 50100_50100_50100L), 2);
        is(h.runScript(3, 10001_50000_50100L), 1);
        is(h.runScript(3, 10002_50100_50100L), NONE);
        is(h.runScript(3, 10048_50200_50200L), 2);
        says("Runs a script on a copy of the state.");
        for (long script : new long[] {10048_10048_10048L, 20120_10009_40000L, 50700_50600_50500L, 30000_40000_50800L, 41000_70001_90000L}) {
            leavesAll(AskEdgeTest::used, x -> x.runScript(3, script));
        }
    }

    private static void scriptLimits() {
        says("xy hours go by (01 to 48), up to the hour 240");
        for (int now : new int[] {192, 193, 239, 240}) {
            CheckedHall h = hall(1, 20);
            h.passTo(now);
            for (int hours = 0; hours <= 49; hours++) {
                is(h.runScript(1, 10000 + hours), hours >= 1 && hours <= 48 && now + hours <= 240 ? NONE : 0);
            }
        }
        CheckedHall steps = hall(1, 20);
        steps.passTo(144);
        is(steps.runScript(3, 10048_10048_10001L), 2);
        is(steps.runScript(3, 10048_10047_10001L), NONE);
        says("owes at most xyz units: 999, and more");
        CheckedHall dear = new CheckedHall();
        dear.addRoom(9, 9, 1, -10);
        dear.outside(-20);
        dear.addGroup();
        for (int b = 0; b < 12; b++) dear.book(0, 0, 12 * b, 12, 25);
        dear.passTo(111);
        is(dear.owes(0), 999);
        is(dear.runScript(1, 70999), NONE);
        is(dear.runScript(1, 70998), 0);
        is(dear.runScript(2, 10001_70999L), 1);
        dear.pass(1);
        is(dear.owes(0), 1008);
        is(dear.runScript(1, 70999), 0);
        is(dear.runScript(1, 70008), 0);
        says("the meter counted at least xyzu units: of four digits");
        CheckedHall most = new CheckedHall();
        for (int r = 0; r < 4; r++) most.addRoom(9, 9, 8, -10);
        most.addGroup();
        most.outside(-20);
        for (int b = 0; b < 12; b++) most.book(b % 4, 0, 127 + 36 * (b / 4), 12, 25);
        most.passTo(240);
        int meter = most.about(5);
        holds("four digits for " + meter, meter > 9600 && meter < 9999);
        is(most.runScript(1, 90000 + meter), NONE);
        is(most.runScript(1, 90000 + meter + 1), 0);
        is(most.runScript(1, 90000), NONE);
        is(most.runScript(1, 99999), 0);
    }

    private static void simulateArguments() {
        says("m: number of hours, 1 to 99");
        for (int m : new int[] {0, 100, -1, MIN, MAX}) {
            refused(ARGUMENT, AskEdgeTest::used, h -> h.simulate(1, m));
            refused(ARGUMENT, h -> h.passTo(240), h -> h.simulate(1, m));
        }
        for (int m : new int[] {1, 2, 98, 99}) leavesAll(AskEdgeTest::used, h -> h.simulate(-1, m));
        is(new CheckedHall().simulate(0, 1), 0);
        is(new CheckedHall().simulate(0, 99), 0);
    }

    /** What simulate tells, by actions on an object of its own. */
    private static int byActions(Recipe recipe, long seed, int m) {
        CheckedHall h = new CheckedHall();
        recipe.make(h);
        int parish = h.about(7);
        int heated = h.about(9);
        int rooms = h.about(1);
        int hour = h.about(0);
        long x = seed;
        for (int i = 0; i < m && hour < 240; i++) {
            x = x * 6364136223846793005L + 1442695040888963407L;
            int r = (int) (x >>> 33);
            h.outside(r % 30 - 10);
            for (int room = 0; r / 64 % 8 == 0 && room < rooms; room++) {
                int each = room;
                thrownBy(() -> h.prove(each, true));
            }
            h.pass(1);
            hour++;
        }
        return 1000 * (h.about(7) - parish) + h.about(9) - heated;
    }

    private static void simulated(Recipe recipe, long[] seeds, int[] hours) {
        CheckedHall h = new CheckedHall();
        recipe.make(h);
        for (long seed : seeds) for (int m : hours) is(h.simulate(seed, m), byActions(recipe, seed, m));
    }

    private static void simulate() {
        says("seed: any long (with long overflow)");
        long[] seeds = {0, 1, -1, Long.MIN_VALUE, Long.MAX_VALUE, 1L << 33, -(1L << 33), 6364136223846793005L, 77, -12345678901L};
        Recipe cold = h -> {
            for (int r = 0; r < 4; r++) h.addRoom(9, 9, 1, -10);
            for (int g = 0; g < 2; g++) h.addGroup();
            for (int b = 0; b < 12; b++) h.book(b % 4, b % 2, 30 * (b / 4) + b % 4, 12, 25);
        };
        simulated(cold, seeds, new int[] {1, 2, 12, 13, 98, 99});
        simulated(AskEdgeTest::used, seeds, new int[] {1, 9, 99});
        says("in them: what was charged and heated before is not counted");
        simulated(h -> {
            cold.make(h);
            h.prove(0, true);
            h.pass(5);
        }, seeds, new int[] {1, 20, 99});
        says("each booking that has the hour of now is marked as empty; other hours keep a mark that is there");
        Recipe marked = h -> {
            cold.make(h);
            h.prove(0, true);
        };
        simulated(marked, seeds, new int[] {1});
        long unmarking = seeds[0];
        for (long seed : seeds) if ((int) (seed * 6364136223846793005L + 1442695040888963407L >>> 33) / 64 % 8 != 0) unmarking = seed;
        CheckedHall h = new CheckedHall();
        marked.make(h);
        is(h.simulate(unmarking, 1), 9 * 1000 + 4);
        says("marked in its first and in its last hour, and not beside them");
        for (int hour = 0; hour <= 4; hour++) {
            int now = hour;
            Recipe three = x -> {
                x.addRoom(9, 1, 1, -10);
                x.addGroup();
                x.book(0, 0, 1, 3, 25);
                x.passTo(now);
            };
            long seed = 0;
            for (long s = 1; s < 100; s++) if ((int) (s * 6364136223846793005L + 1442695040888963407L >>> 33) / 64 % 8 == 0) seed = s;
            CheckedHall x = new CheckedHall();
            three.make(x);
            is(x.simulate(seed, 1), now == 0 ? 1 : now <= 3 ? 9001 : 0);
        }
        says("It ends early when the hour of now is 240.");
        for (int now : new int[] {190, 199, 210, 211, 239, 240}) {
            Recipe late = x -> {
                x.addRoom(9, 9, 5, 10);
                x.addGroup();
                x.book(0, 0, 199, 12, 25);
                x.passTo(now);
            };
            simulated(late, new long[] {3, 4}, new int[] {1, 2, 12, 21, 50, 51, 99});
        }
        CheckedHall end = hall(1, 10);
        end.passTo(240);
        is(end.simulate(5, 1), 0);
        is(end.simulate(5, 99), 0);
        is(end.about(0), 240);
    }
}

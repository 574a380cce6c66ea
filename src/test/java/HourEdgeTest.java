/**
 * The edges that the document names in ROOMS AND GROUPS, BOOKINGS and AN HOUR, and in the promises 6 to 9.
 * A room with the loss 1 keeps its temperature: it is never 100 degrees from outside.
 */
public final class HourEdgeTest extends Checks {

    public static void main(String[] args) {
        roomsAndGroups();
        bookings();
        cooling();
        preheatingBegins();
        preheatingGoesOn();
        heatingBooking();
        heat();
        charges();
        half();
        noHalf();
        asTheBookingsAreThen();
        marks();
        meter();
        about();
        room();
        owes();
        booking();
        coldHours();
        end("HourEdgeTest");
    }

    /** One room, the temperature outside, two groups. */
    private static CheckedHall hall(int size, int loss, int power, int t, int outside) {
        CheckedHall h = new CheckedHall();
        h.addRoom(size, loss, power, t);
        h.outside(outside);
        h.addGroup();
        h.addGroup();
        return h;
    }

    private static void roomsAndGroups() {
        says("There are at most 4 rooms, numbered from 0");
        CheckedHall h = new CheckedHall();
        for (int r = 0; r < 4; r++) {
            int next = r;
            fails(INDEX, () -> h.room(next, 0));
            is(h.addRoom(r + 1, 9 - r, r + 2, r - 10), r);
            is(h.about(1), r + 1);
        }
        for (int r = 0; r < 4; r++) {
            is(h.room(r, 0), r + 1);
            is(h.room(r, 1), 9 - r);
            is(h.room(r, 2), r + 2);
            is(h.room(r, 3), r - 10);
        }
        says("There are at most 6 groups, numbered from 0, each with units that it owes.");
        for (int g = 0; g < 6; g++) {
            int next = g;
            fails(INDEX, () -> h.owes(next));
            is(h.addGroup(), g);
            is(h.about(2), g + 1);
        }
        for (int g = 0; g < 6; g++) is(h.owes(g), 0);
        for (int r = 0; r < 4; r++) h.book(r, 5 - r, 0, 1, 25);
        h.pass(1);
        int[] owed = {0, 0, 4 * 5, 3 * 4, 2 * 3, 1 * 2};
        for (int g = 0; g < 6; g++) is(h.owes(g), owed[g]);
        says("Hours are numbered from 0; the hour that goes by next is the hour of now");
        is(h.about(0), 1);
        h.pass(48);
        is(h.about(0), 49);
        h.passTo(240);
        is(h.about(0), 240);
    }

    private static void bookings() {
        says("There are at most 12 bookings, numbered from 0 in the order in which they were made.");
        CheckedHall h = hall(1, 1, 1, 20, 5);
        for (int b = 0; b < 12; b++) {
            int next = b;
            fails(INDEX, () -> h.booking(next, 0));
            is(h.book(0, b % 2, 199 - 10 * b, 1 + b % 3, 12 + b), b);
            is(h.about(3), b + 1);
        }
        for (int b = 0; b < 12; b++) {
            is(h.booking(b, 1), b % 2);
            is(h.booking(b, 2), 199 - 10 * b);
            is(h.booking(b, 3), 1 + b % 3);
            is(h.booking(b, 4), 12 + b);
        }
        says("A booking is over when its last hour went by.");
        CheckedHall one = hall(1, 1, 1, 20, 5);
        one.book(0, 0, 0, 1, 12);
        one.book(0, 0, 1, 12, 12);
        one.book(0, 0, 199, 12, 12);
        for (int hour = 0; hour <= 14; hour++) {
            is(one.booking(0, 9), hour >= 1 ? 1 : 0);
            is(one.booking(1, 9), hour >= 13 ? 1 : 0);
            is(one.booking(2, 9), 0);
            one.pass(1);
        }
        one.passTo(210);
        is(one.booking(2, 9), 0);
        is(one.room(0, 4), 2);
        one.pass(1);
        is(one.booking(2, 9), 1);
        is(one.room(0, 4), NONE);
        one.passTo(240);
        is(one.booking(2, 9), 1);
        is(one.about(3), 3);
    }

    private static void cooling() {
        says("its temperature becomes T - c, where c is loss * (T - the temperature outside) / 100, rounded towards 0");
        int[][] rows = {{9, 16, 5, 16}, {1, 30, -20, 30}, {5, 25, 5, 24}, {2, 30, -20, 29}, {9, 27, 5, 26}, {8, 30, 5, 28},
            {9, 30, -20, 26}, {9, 14, 25, 14}, {5, 5, 25, 6}, {9, 3, 25, 4}, {8, 0, 25, 2}, {9, -10, 25, -7}, {9, -10, -20, -10},
            {9, 1, -20, 0}, {9, 0, -20, -1}, {9, 5, 5, 5}};
        for (int[] row : rows) {
            CheckedHall h = hall(1, row[0], 1, row[1], row[2]);
            is(h.later(0, 1), row[3]);
            h.pass(1);
            is(h.room(0, 3), row[3]);
        }
        says("the room cools: every loss, every temperature as at first told, every temperature outside");
        for (int loss = 1; loss <= 9; loss++) {
            for (int t = -10; t <= 30; t++) {
                CheckedHall h = hall(1, loss, 1, t, 5);
                for (int out = -20; out <= 25; out++) {
                    h.outside(out);
                    int c = loss * Math.abs(t - out) / 100;
                    is(h.later(0, 1), t >= out ? t - c : t + c);
                }
            }
        }
        says("its temperature becomes T - c, .. with its temperature T: the hour before it counts");
        CheckedHall two = hall(1, 9, 1, 30, -20);
        int[] falling = {30, 26, 22, 19, 16, 13, 11, 9, 7, 5, 3, 1, 0, -1, -2, -3, -4, -5, -6, -7, -8, -9, -9, -9};
        for (int i = 0; i < falling.length; i++) is(two.later(0, i), falling[i]);
    }

    private static void heats(int loss, int power, int t, int outside, int first, int wanted, boolean due) {
        CheckedHall h = hall(1, loss, power, t, outside);
        h.book(0, 0, first, 1, wanted);
        is("with power " + power + " and " + t + " degrees for " + wanted + " at " + first + ", the booking that heats",
            h.room(0, 6), due ? 0 : NONE);
        is(h.begins(0) == 0 ? 1 : 0, due ? 1 : 0);
        is(h.pass(1) > 0 ? 1 : 0, due ? 1 : 0);
        is(h.booking(0, 5) > 0 ? 1 : 0, due ? 1 : 0);
    }

    private static void preheatingBegins() {
        says("the temperature after this hour without heating, and then with its power added .. less than the wanted temperature");
        heats(1, 1, 10, 5, 5, 15, true);
        heats(1, 1, 10, 5, 6, 15, false);
        heats(1, 1, 10, 5, 5, 14, false);
        heats(1, 1, 11, 5, 5, 15, false);
        heats(1, 2, 10, 5, 5, 18, false);
        heats(1, 2, 10, 5, 5, 19, true);
        heats(1, 2, 9, 5, 5, 18, true);
        says("for each hour from the next one to the one before the booking's first hour: there may be none");
        heats(1, 9, 11, 5, 1, 12, true);
        heats(1, 9, 12, 5, 1, 12, false);
        heats(1, 9, 24, 5, 1, 25, true);
        heats(1, 9, 25, 5, 1, 25, false);
        says("and there may be one");
        heats(1, 9, 10, 5, 2, 20, true);
        heats(1, 9, 10, 5, 2, 19, false);
        says("the temperature after this hour without heating: it cools in this hour, and in no later one");
        heats(9, 1, 20, -20, 1, 18, true);
        heats(9, 1, 20, -20, 1, 17, false);
        heats(9, 1, 20, -20, 3, 20, true);
        heats(9, 1, 20, -20, 3, 19, false);
        heats(9, 1, 10, 25, 1, 12, true);
        heats(9, 1, 11, 25, 1, 12, false);
        says("every power, and first hours up to some behind the last in which heating begins");
        for (int power = 1; power <= 9; power++) {
            for (int first = 1; first <= 20; first++) heats(1, power, 10, 5, first, 25, 10 + power * (first - 1) < 25);
        }
        says("preheating for the latest first hour");
        CheckedHall late = hall(1, 1, 1, 12, 5);
        late.book(0, 0, 199, 12, 25);
        is(late.begins(0), 186);
        late.passTo(186);
        is(late.booking(0, 5), 0);
        late.passTo(199);
        is(late.room(0, 3), 25);
        is(late.booking(0, 5), 13);
        says("it is this one if the room must be preheated .. if there is none, nothing heats.");
        CheckedHall none = hall(1, 9, 9, -10, -10);
        is(none.room(0, 6), NONE);
        is(none.pass(48), 0);
        is(none.room(0, 3), -10);
    }

    private static void preheatingGoesOn() {
        says("Once it is preheated in an hour, it is so in all later ones up to its first.");
        CheckedHall h = hall(1, 9, 1, 13, -20);
        h.book(0, 0, 3, 2, 14);
        is(h.room(0, 6), 0);
        is(h.pass(1), 2);
        is(h.room(0, 3), 12);
        h.outside(25);
        is(h.room(0, 6), 0);
        is(h.pass(1), 2);
        is(h.room(0, 3), 14);
        is(h.room(0, 6), 0);
        is(h.begins(0), 2);
        is(h.pass(1), 0);
        is(h.booking(0, 5), 2);
        is(h.about(9), 2);
        is(h.room(0, 6), 0);
        CheckedHall notBegun = hall(1, 9, 1, 13, -20);
        notBegun.book(0, 0, 3, 2, 14);
        notBegun.outside(25);
        is(notBegun.room(0, 6), NONE);
        says("if it has begun to be preheated: in one hour, the last before another temperature outside");
        CheckedHall cold = hall(1, 1, 1, 10, 5);
        cold.book(0, 0, 6, 1, 15);
        cold.pass(1);
        is(cold.booking(0, 5), 0);
        is(cold.cancel(0), 0);
        cold.undo();
        cold.pass(1);
        is(cold.booking(0, 5), 1);
        fails(STATE, () -> cold.cancel(0));
        says("(no other one is looked at): the next one is warm enough, a later one is not");
        CheckedHall two = hall(1, 1, 1, 12, 5);
        two.book(0, 0, 3, 1, 25);
        two.book(0, 1, 2, 1, 12);
        is(two.room(0, 5), 1);
        is(two.room(0, 6), NONE);
        is(two.begins(0), 3);
        is(two.pass(2), 0);
        says("the next one, when another one that was begun is not the next any more");
        CheckedHall begun = hall(1, 1, 1, 12, 5);
        begun.book(0, 0, 10, 1, 25);
        is(begun.pass(1), 2);
        begun.book(0, 1, 8, 1, 12);
        is(begun.room(0, 6), NONE);
        is(begun.begins(0), 9);
        fails(STATE, () -> begun.cancel(0));
        is(begun.pass(7), 0);
        is(begun.room(0, 6), 1);
        is(begun.pass(1), 0);
        is(begun.room(0, 6), 0);
        is(begun.pass(1), 2);
        is(begun.booking(0, 5), 2);
    }

    private static void heatingBooking() {
        says("if a booking has this hour, it is this one: its first, its last, and none beside them");
        CheckedHall h = hall(1, 1, 9, 12, 5);
        h.book(0, 0, 3, 2, 12);
        h.book(0, 1, 5, 1, 12);
        h.book(0, 1, 7, 12, 12);
        int[] now = {NONE, NONE, NONE, 0, 0, 1, NONE, 2, 2, 2, 2, 2, 2, 2, 2, 2, 2, 2, 2, NONE};
        int[] next = {0, 0, 0, 1, 1, 2, 2, NONE, NONE, NONE, NONE, NONE, NONE, NONE, NONE, NONE, NONE, NONE, NONE, NONE};
        for (int hour = 0; hour < now.length; hour++) {
            is(h.room(0, 4), now[hour]);
            is(h.room(0, 5), next[hour]);
            is(h.room(0, 6), now[hour]);
            h.pass(1);
        }
        says("if a booking has this hour, it is this one, though the next one is far from warm");
        CheckedHall own = hall(1, 1, 1, 12, 5);
        own.book(0, 1, 1, 1, 25);
        own.book(0, 0, 0, 1, 12);
        is(own.room(0, 6), 1);
        is(own.pass(1), 0);
        is(own.booking(0, 5), 0);
        says("the one with the smallest first hour above this one, whatever its number");
        CheckedHall order = hall(1, 1, 1, 20, 5);
        order.book(0, 0, 199, 1, 12);
        is(order.room(0, 5), 0);
        order.book(0, 0, 5, 1, 12);
        is(order.room(0, 5), 1);
        order.book(0, 0, 1, 1, 12);
        order.book(0, 0, 0, 1, 12);
        order.book(0, 0, 3, 1, 12);
        is(order.room(0, 4), 3);
        is(order.room(0, 5), 2);
        order.pass(1);
        is(order.room(0, 4), 2);
        is(order.room(0, 5), 4);
        order.passTo(5);
        is(order.room(0, 5), 0);
        order.passTo(198);
        is(order.room(0, 5), 0);
        order.pass(1);
        is(order.room(0, 4), 0);
        is(order.room(0, 5), NONE);
        says("the next booking of this room");
        CheckedHall rooms = hall(1, 1, 1, 10, 5);
        rooms.addRoom(1, 1, 1, 10);
        rooms.book(1, 0, 1, 1, 25);
        is(rooms.room(0, 4), NONE);
        is(rooms.room(0, 5), NONE);
        is(rooms.room(0, 6), NONE);
        is(rooms.room(1, 5), 0);
        is(rooms.room(1, 6), 0);
        rooms.pass(1);
        is(rooms.room(0, 4), NONE);
        is(rooms.room(1, 4), 0);
        is(rooms.room(0, 3), 10);
        is(rooms.room(1, 3), 11);
    }

    private static void heat() {
        says("its temperature rises by as many degrees as are missing, at most its power; each degree takes .. the size");
        for (int power = 1; power <= 9; power++) {
            for (int t = 11; t <= 26; t++) {
                int size = 1 + (t + power) % 9;
                CheckedHall h = hall(size, 1, power, t, 5);
                h.book(0, 0, 0, 1, 21);
                int degrees = t >= 21 ? 0 : 21 - t <= power ? 21 - t : power;
                is(h.pass(1), degrees * size + (degrees > 0 ? 1 : 0));
                is(h.room(0, 3), t + degrees);
                is(h.booking(0, 6), degrees * size);
                is(h.booking(0, 5), 0);
                is(h.owes(0), degrees * size);
                is(h.about(9), degrees > 0 ? 1 : 0);
            }
        }
        says("if .. the room has less than the wanted temperature then: behind the cooling of this hour");
        CheckedHall cooled = hall(2, 9, 9, 20, -20);
        cooled.book(0, 0, 0, 1, 20);
        is(cooled.pass(1), 2 * 3 + 1);
        is(cooled.room(0, 3), 20);
        CheckedHall stays = hall(2, 9, 9, 20, -20);
        stays.book(0, 0, 0, 1, 17);
        is(stays.pass(1), 0);
        is(stays.room(0, 3), 17);
        says("the heat of an hour of preheating is heat of the same kind");
        CheckedHall before = hall(9, 1, 9, 10, 5);
        before.book(0, 0, 1, 1, 25);
        is(before.pass(1), 9 * 9 + 1);
        is(before.room(0, 3), 19);
        is(before.pass(1), 6 * 9 + 1);
        is(before.room(0, 3), 25);
        is(before.booking(0, 5), 81);
        is(before.booking(0, 6), 54);
    }

    private static void charges() {
        says("In an hour of the booking: .. to its group. In an hour of preheating: to its group, as a preheat debt.");
        CheckedHall h = hall(2, 1, 3, 10, 5);
        h.book(0, 1, 2, 2, 21);
        int[] owed = {0, 6, 12, 18, 22, 22};
        int[] debt = {0, 6, 12, 12, 12, 12};
        int[] own = {0, 0, 0, 6, 10, 10};
        for (int hour = 0; hour <= 5; hour++) {
            is(h.owes(1), owed[hour]);
            is(h.owes(0), 0);
            is(h.booking(0, 5), debt[hour]);
            is(h.booking(0, 6), own[hour]);
            is(h.about(6), owed[hour]);
            is(h.about(7), 0);
            h.pass(1);
        }
    }

    /** A booking of group 0 from hour 1 on, with a preheat debt of so much (0 to 9); the hour of now is 1. */
    private static CheckedHall owing(int debt, int hours) {
        CheckedHall h = hall(1, 1, 9, 12 - debt, 5);
        h.book(0, 0, 1, hours, 12);
        h.pass(1);
        return h;
    }

    private static void owe(CheckedHall h, int first, int second) {
        is(h.owes(0), first);
        is(h.owes(1), second);
        is(h.about(6), first + second);
    }

    private static void half() {
        says("half of the preheat debt of the booking that is over, rounded down, is charged to that other group instead");
        for (int debt = 0; debt <= 9; debt++) {
            CheckedHall h = owing(debt, 1);
            h.book(0, 1, 2, 1, 12);
            owe(h, debt, 0);
            is(h.willOwe(0), debt - debt / 2);
            is(h.willOwe(1), debt / 2);
            is(h.pass(1), 0);
            owe(h, debt - debt / 2, debt / 2);
            is(h.booking(0, 5), debt);
            is(h.booking(1, 5), 0);
            is(h.booking(1, 6), 0);
            h.pass(1);
            owe(h, debt - debt / 2, debt / 2);
        }
        says("its preheat debt so far (all of it, also when half of it was charged to another group)");
        CheckedHall all = owing(9, 1);
        all.book(0, 1, 2, 1, 12);
        is(all.booking(0, 5), 9);
        all.pass(1);
        owe(all, 5, 4);
        is(all.booking(0, 5), 9);
        is(all.booking(1, 5), 0);
        says("another booking .. has its first hour right behind it: one of any number, with one of the same group ahead of it");
        for (int behind = 0; behind < 4; behind++) {
            CheckedHall any = hall(1, 1, 9, 4, 5);
            for (int b = 0; b < 4; b++) {
                if (b == behind) any.book(0, 1, 5, 1, 12);
                else any.book(0, 0, b == 3 || b == 2 && behind == 3 ? 4 : 20 + b, 1, 12);
            }
            any.pass(4);
            owe(any, 8, 0);
            any.pass(1);
            owe(any, 4, 4);
        }
        says("When the last hour of a booking went by: no earlier hour of it");
        CheckedHall three = owing(8, 3);
        three.book(0, 1, 4, 1, 12);
        three.pass(1);
        owe(three, 8, 0);
        three.pass(1);
        owe(three, 8, 0);
        three.pass(1);
        owe(three, 4, 4);
        three.pass(10);
        owe(three, 4, 4);
        says("half of the preheat debt: the heat of its own hours stays");
        CheckedHall own = hall(1, 1, 4, 10, 5);
        own.book(0, 0, 1, 1, 18);
        own.pass(1);
        own.book(0, 1, 2, 1, 12);
        own.pass(1);
        is(own.booking(0, 6), 4);
        owe(own, 4 + 2, 2);
        says("half moves on also if the group has paid: units charged to it, less those that it paid");
        CheckedHall paid = owing(7, 1);
        paid.book(0, 1, 2, 1, 12);
        is(paid.pay(0), 7);
        paid.pass(1);
        is(paid.owes(0), -3);
        is(paid.owes(1), 3);
        is(paid.about(6), 7);
        says("half of the preheat debt of the booking that is over moves in each room for itself");
        CheckedHall rooms = hall(1, 1, 9, 4, 5);
        rooms.addRoom(1, 1, 9, 6);
        rooms.book(0, 0, 1, 1, 12);
        rooms.book(1, 1, 1, 1, 12);
        rooms.book(0, 1, 2, 1, 12);
        rooms.book(1, 0, 2, 1, 12);
        rooms.pass(1);
        owe(rooms, 8, 6);
        rooms.pass(1);
        owe(rooms, 8 - 4 + 3, 6 + 4 - 3);
    }

    private static void noHalf() {
        says("another booking of the same room, of another group, has its first hour right behind it: not an hour later");
        CheckedHall gap = owing(8, 1);
        gap.book(0, 1, 3, 1, 12);
        gap.pass(3);
        owe(gap, 8, 0);
        says("of another group: not of the same");
        CheckedHall same = owing(8, 1);
        same.book(0, 0, 2, 1, 12);
        same.pass(2);
        owe(same, 8, 0);
        says("of the same room: not of another");
        CheckedHall other = owing(8, 1);
        other.addRoom(1, 1, 1, 12);
        other.book(1, 1, 2, 1, 12);
        other.pass(2);
        owe(other, 8, 0);
        says("right behind it: not right ahead of it, and not with the same hours in another room");
        CheckedHall ahead = hall(1, 1, 1, 10, 5);
        ahead.addRoom(1, 1, 1, 12);
        ahead.book(0, 0, 3, 1, 14);
        ahead.book(1, 1, 3, 1, 12);
        ahead.pass(2);
        is(ahead.booking(0, 5), 2);
        ahead.book(0, 1, 2, 1, 12);
        ahead.pass(2);
        is(ahead.booking(0, 6), 1);
        owe(ahead, 3, 0);
        says("the preheat debt of the booking that is over: not that of the one behind it");
        CheckedHall behind = hall(1, 1, 1, 10, 5);
        behind.book(0, 0, 3, 1, 14);
        behind.pass(1);
        behind.book(0, 1, 1, 2, 12);
        behind.pass(2);
        is(behind.booking(0, 5), 1);
        is(behind.booking(1, 5), 0);
        owe(behind, 1, 1);
        says("without another booking, nothing moves");
        CheckedHall alone = owing(9, 1);
        alone.pass(1);
        owe(alone, 9, 0);
    }

    private static void asTheBookingsAreThen() {
        says("(as the bookings are then): booked in the last hour");
        CheckedHall late = owing(8, 2);
        late.pass(1);
        late.book(0, 1, 3, 1, 12);
        late.pass(1);
        owe(late, 4, 4);
        says("(as the bookings are then): cancelled in the last hour");
        CheckedHall gone = owing(8, 2);
        gone.book(0, 1, 3, 1, 12);
        gone.pass(1);
        gone.cancel(1);
        gone.pass(1);
        owe(gone, 8, 0);
        says("(as the bookings are then): booked when the last hour went by");
        CheckedHall after = owing(8, 1);
        after.pass(1);
        after.book(0, 1, 2, 1, 12);
        after.pass(1);
        owe(after, 8, 0);
        says("(as the bookings are then): cancelled when the last hour went by");
        CheckedHall kept = owing(8, 1);
        kept.book(0, 1, 2, 1, 12);
        kept.pass(1);
        kept.cancel(1);
        owe(kept, 4, 4);
    }

    private static void marks() {
        says("if it is marked as empty, to the parish; otherwise to its group");
        CheckedHall h = hall(2, 1, 3, 10, 5);
        h.book(0, 0, 0, 4, 20);
        h.pass(1);
        h.prove(0, true);
        is(h.pass(1), 7);
        is(h.about(7), 6);
        is(h.owes(0), 6);
        says("marks are gone; its mark is told just for the next hour");
        is(h.booking(0, 7), 0);
        h.pass(1);
        is(h.about(7), 6);
        is(h.owes(0), 12);
        says("a mark that was taken away charges the group");
        h.prove(0, true);
        h.prove(0, false);
        h.pass(1);
        is(h.about(7), 6);
        is(h.owes(0), 14);
        is(h.booking(0, 6), 20);
        says("a mark for the last hour, and half of the preheat debt moves all the same");
        CheckedHall last = hall(1, 1, 4, 10, 5);
        last.book(0, 0, 1, 1, 18);
        last.book(0, 1, 2, 1, 12);
        last.pass(1);
        last.prove(0, true);
        last.pass(1);
        is(last.about(7), 4);
        owe(last, 2, 2);
        is(last.booking(0, 6), 4);
        is(last.booking(0, 7), 0);
        says("to the parish: in each hour in which it is marked, and for each room");
        CheckedHall often = hall(2, 1, 3, 10, 5);
        often.book(0, 0, 0, 3, 25);
        for (int hour = 1; hour <= 3; hour++) {
            often.prove(0, true);
            often.pass(1);
            is(often.about(7), 6 * hour);
            is(often.about(6), 0);
            is(often.about(8), hour);
        }
        says("a mark in one of two rooms");
        CheckedHall rooms = hall(1, 1, 1, 10, 5);
        rooms.addRoom(3, 1, 1, 10);
        rooms.book(0, 0, 0, 1, 12);
        rooms.book(1, 1, 0, 1, 12);
        rooms.prove(1, true);
        is(rooms.booking(0, 7), 0);
        is(rooms.booking(1, 7), 1);
        is(rooms.pass(1), 1 + 3 + 1);
        owe(rooms, 1, 0);
        is(rooms.about(7), 3);
    }

    private static void meter() {
        says("in each hour in which the heat of some room is above 0, 1 unit (for all rooms together) for the pilot flame");
        CheckedHall h = hall(1, 1, 1, 10, 5);
        for (int r = 1; r < 4; r++) h.addRoom(1, 1, 1, 10);
        for (int r = 0; r < 4; r++) h.book(r, 0, 0, 1 + r, 12 + r);
        int units = 0;
        int roomHours = 0;
        for (int hour = 0; hour < 4; hour++) {
            int heated = 4 - hour;
            is(h.pass(1), heated + 1);
            units += heated;
            roomHours += heated;
            is(h.about(8), hour + 1);
            is(h.about(5), units + hour + 1);
            is(h.about(6), units);
            is(h.about(9), roomHours);
        }
        is(h.pass(1), 0);
        is(h.about(8), 4);
        is(h.about(9), 10);
        says("an hour in which just the parish is charged has its pilot flame, too, and so has one of preheating");
        CheckedHall parish = hall(1, 1, 1, 10, 5);
        parish.book(0, 0, 0, 1, 12);
        parish.prove(0, true);
        is(parish.pass(1), 2);
        is(parish.about(8), 1);
        is(parish.about(7), 1);
        parish.book(0, 0, 2, 1, 13);
        is(parish.pass(1), 2);
        is(parish.about(8), 2);
        is(parish.about(6), 1);
        says("a booking that heats with nothing missing: no heat, no pilot flame");
        CheckedHall none = hall(1, 1, 1, 12, 5);
        none.book(0, 0, 0, 2, 12);
        is(none.pass(2), 0);
        is(none.about(8), 0);
        is(none.about(9), 0);
    }

    private static CheckedHall used() {
        CheckedHall h = new CheckedHall();
        used(h);
        return h;
    }

    /** A state in which the numbers of about are 6 (hour), 2, 3, 4 (bookings), -7, and more than 0. */
    private static void used(CheckedHall h) {
        h.addRoom(2, 1, 3, 10);
        h.addGroup();
        h.addGroup();
        h.addRoom(3, 1, 1, 10);
        h.addGroup();
        h.book(0, 0, 0, 2, 15);
        h.book(1, 1, 1, 3, 20);
        h.book(0, 1, 4, 1, 12);
        h.book(1, 0, 199, 12, 12);
        h.prove(0, true);
        h.save(0);
        h.pass(6);
        h.outside(-7);
    }

    private static void about() {
        says("IllegalArgumentException if what is not 0 to 9");
        for (CheckedHall h : new CheckedHall[] {new CheckedHall(), used()}) {
            for (int what : new int[] {-1, 10, Integer.MIN_VALUE, Integer.MAX_VALUE}) fails(ARGUMENT, () -> h.about(what));
        }
        refused(ARGUMENT, HourEdgeTest::used, h -> h.about(10));
        for (int w = 0; w <= 9; w++) {
            int what = w;
            leavesAll(HourEdgeTest::used, h -> h.about(what));
        }
        says("about: 0 to 9");
        // Room 0 has 3 and 2 degrees of heat (6 units marked, 4 not); room 1 a degree in each of the hours 0 to 3.
        int[] due = {6, 2, 3, 4, -7, 6 + 4 + 12 + 4, 4 + 12, 6, 4, 2 + 4};
        CheckedHall h = used();
        for (int w = 0; w <= 9; w++) is(h.about(w), due[w]);
        says("those that were charged to all groups together: also those that they paid");
        h.pay(0);
        h.pay(1);
        is(h.about(6), 16);
        is(h.about(8), 4);
        says("the numbers of rooms, groups and bookings at their most");
        CheckedHall full = new CheckedHall();
        for (int i = 0; i < 4; i++) full.addRoom(1, 1, 1, 1);
        for (int i = 0; i < 6; i++) full.addGroup();
        for (int i = 0; i < 12; i++) full.book(i % 4, i % 6, 10 * i, 1, 12);
        is(full.about(1), 4);
        is(full.about(2), 6);
        is(full.about(3), 12);
    }

    private static void room() {
        says("IndexOutOfBoundsException if there is no such room");
        CheckedHall h = used();
        for (int r : new int[] {-1, 2, 3, 4, NONE, Integer.MIN_VALUE, Integer.MAX_VALUE}) {
            for (int w = 0; w <= 6; w++) {
                int what = w;
                fails(INDEX, () -> h.room(r, what));
            }
        }
        says("IllegalArgumentException if what is not 0 to 6");
        for (int what : new int[] {-1, 7, Integer.MIN_VALUE, Integer.MAX_VALUE}) {
            fails(ARGUMENT, () -> h.room(0, what));
            fails(ARGUMENT, () -> h.room(1, what));
        }
        says("room: IndexOutOfBoundsException is named ahead of IllegalArgumentException");
        for (int what : new int[] {-1, 7, Integer.MIN_VALUE, Integer.MAX_VALUE}) {
            fails(INDEX, () -> h.room(2, what));
            fails(INDEX, () -> h.room(-1, what));
            fails(INDEX, () -> new CheckedHall().room(0, what));
        }
        refused(INDEX, HourEdgeTest::used, x -> x.room(2, 0));
        refused(ARGUMENT, HourEdgeTest::used, x -> x.room(1, 7));
        for (int w = 0; w <= 6; w++) {
            int what = w;
            leavesAll(HourEdgeTest::used, x -> x.room(1, what));
        }
        says("NONE without one; NONE if nothing does");
        CheckedHall none = hall(1, 1, 1, 10, 5);
        for (int w = 4; w <= 6; w++) is(none.room(0, w), NONE);
        none.book(0, 0, 0, 1, 12);
        is(none.room(0, 4), 0);
        is(none.room(0, 5), NONE);
        is(none.room(0, 6), 0);
        none.pass(1);
        for (int w = 4; w <= 6; w++) is(none.room(0, w), NONE);
        says("room at the hour 240");
        none.passTo(240);
        for (int w = 4; w <= 6; w++) is(none.room(0, w), NONE);
        says("a room's numbers at their least and most");
        CheckedHall rooms = new CheckedHall();
        rooms.addRoom(1, 1, 1, -10);
        rooms.addRoom(9, 9, 9, 30);
        int[][] due = {{1, 1, 1, -10}, {9, 9, 9, 30}};
        for (int r = 0; r < 2; r++) for (int w = 0; w < 4; w++) is(rooms.room(r, w), due[r][w]);
    }

    private static void owes() {
        says("owes: IndexOutOfBoundsException if there is no such group");
        CheckedHall h = used();
        for (int g : new int[] {-1, 3, 5, 6, NONE, Integer.MIN_VALUE, Integer.MAX_VALUE}) fails(INDEX, () -> h.owes(g));
        refused(INDEX, HourEdgeTest::used, x -> x.owes(3));
        leavesAll(HourEdgeTest::used, x -> x.owes(2));
        says("the units that were charged to it, less those that it paid");
        is(h.owes(0), 4);
        is(h.owes(1), 12);
        is(h.owes(2), 0);
        h.pay(1);
        is(h.owes(1), 0);
        is(h.owes(0), 4);
        CheckedHall six = new CheckedHall();
        for (int g = 0; g < 6; g++) six.addGroup();
        is(six.owes(5), 0);
        fails(INDEX, () -> six.owes(6));
    }

    private static void booking() {
        says("booking: IndexOutOfBoundsException if there is no such booking");
        CheckedHall h = used();
        for (int b : new int[] {-1, 4, 11, 12, NONE, Integer.MIN_VALUE, Integer.MAX_VALUE}) {
            for (int w = 0; w <= 9; w++) {
                int what = w;
                fails(INDEX, () -> h.booking(b, what));
            }
        }
        says("booking: IllegalArgumentException if what is not 0 to 9");
        for (int what : new int[] {-1, 10, Integer.MIN_VALUE, Integer.MAX_VALUE}) {
            fails(ARGUMENT, () -> h.booking(0, what));
            fails(ARGUMENT, () -> h.booking(3, what));
        }
        says("booking: IndexOutOfBoundsException is named ahead of IllegalArgumentException");
        for (int what : new int[] {-1, 10, Integer.MIN_VALUE, Integer.MAX_VALUE}) {
            fails(INDEX, () -> h.booking(4, what));
            fails(INDEX, () -> h.booking(-1, what));
            fails(INDEX, () -> new CheckedHall().booking(0, what));
        }
        refused(INDEX, HourEdgeTest::used, x -> x.booking(4, 0));
        refused(ARGUMENT, HourEdgeTest::used, x -> x.booking(3, 10));
        for (int w = 0; w <= 9; w++) {
            int what = w;
            leavesAll(HourEdgeTest::used, x -> x.booking(1, what));
        }
        says("a booking's numbers, of one that is over and of the latest");
        int[][] due = {{0, 0, 0, 2, 15, 0, 10, 0, 2, 1}, {1, 1, 1, 3, 20, 3, 9, 0, 3, 1}, {0, 1, 4, 1, 12, 0, 0, 0, 0, 1},
            {1, 0, 199, 12, 12, 0, 0, 0, 0, 0}};
        for (int b = 0; b < 4; b++) for (int w = 0; w <= 9; w++) is(h.booking(b, w), due[b][w]);
        says("the units of heat in its own hours so far (also of those in which it was marked as empty)");
        CheckedHall own = hall(1, 1, 1, 10, 5);
        own.book(0, 0, 0, 3, 25);
        for (int hour = 0; hour < 3; hour++) {
            is(own.booking(0, 6), hour);
            own.prove(0, hour != 1);
            own.pass(1);
        }
        is(own.booking(0, 6), 3);
        is(own.booking(0, 5), 0);
        says("1 if it is marked as empty, otherwise 0");
        CheckedHall mark = hall(1, 1, 1, 10, 5);
        mark.book(0, 0, 0, 12, 25);
        is(mark.booking(0, 7), 0);
        mark.prove(0, true);
        is(mark.booking(0, 7), 1);
        mark.prove(0, true);
        is(mark.booking(0, 7), 1);
        mark.prove(0, false);
        is(mark.booking(0, 7), 0);
        mark.prove(0, true);
        mark.pass(1);
        is(mark.booking(0, 7), 0);
        says("its preheat debt so far: from its first preheated hour on, not in its own hours");
        CheckedHall debt = hall(1, 1, 1, 10, 5);
        debt.book(0, 0, 4, 2, 16);
        for (int hour = 0; hour <= 7; hour++) {
            is(debt.booking(0, 5), Math.min(hour, 4));
            is(debt.booking(0, 6), Math.max(0, Math.min(hour, 6) - 4));
            debt.pass(1);
        }
    }

    private static void coldHours() {
        says("how many of its hours began with less than the wanted temperature less 1");
        for (int t = 16; t <= 20; t++) {
            CheckedHall h = hall(1, 1, 9, t, 5);
            h.book(0, 0, 0, 1, 18);
            h.pass(1);
            is("with " + t + " degrees for 18, booking(0, 8)", h.booking(0, 8), t < 17 ? 1 : 0);
        }
        says("its hours: not those of preheating, not those behind it, and each of its own");
        CheckedHall h = hall(1, 1, 1, 5, 5);
        h.book(0, 0, 2, 12, 25);
        for (int hour = 0; hour <= 16; hour++) {
            is(h.booking(0, 8), Math.min(12, Math.max(0, hour - 2)));
            h.pass(1);
        }
        says("how many of its hours began with less: before the cooling and the heating of the hour");
        CheckedHall cools = hall(1, 9, 1, 20, -20);
        cools.book(0, 0, 0, 2, 21);
        cools.pass(1);
        is(cools.room(0, 3), 18);
        is(cools.booking(0, 8), 0);
        cools.pass(1);
        is(cools.booking(0, 8), 1);
        says("cold hours in which it was marked as empty count, too");
        CheckedHall marked = hall(1, 1, 1, 5, 5);
        marked.book(0, 0, 0, 1, 25);
        marked.prove(0, true);
        marked.pass(1);
        is(marked.booking(0, 8), 1);
    }
}

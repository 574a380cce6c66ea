/** The heating of a parish hall that groups share; ../shared/DOC.md says what each call promises. */
public final class HallHeating {

    public static final int NONE = -99;

    private static final int ROOM_LIMIT = 4;
    private static final int GROUP_LIMIT = 6;
    private static final int BOOKING_LIMIT = 12;
    private static final int TEXT_LIMIT = 120;
    private static final int MEMORY_LIMIT = 14;
    private static final int SLOT_LIMIT = 2;
    private static final int LATEST_FIRST_HOUR = 199;
    private static final int MOST_BOOKED_HOURS = 12;
    private static final int LEAST_WANTED = 12;
    private static final int MOST_WANTED = 25;
    private static final int MOST_PASSED_HOURS = 48;
    private static final int LAST_HOUR = 240;
    private static final int COLDEST_OUTSIDE = -20;
    private static final int WARMEST_OUTSIDE = 25;
    private static final int FIRST_OUTSIDE = 5;

    private final HallText text = new HallText();
    private final Hall hall = new Hall();
    private final Memory memory = new Memory();
    private final Hall[] slots = new Hall[SLOT_LIMIT];
    private final boolean[] saved = new boolean[SLOT_LIMIT];
    private final Command command = new Command();
    // What would be is tried out on these two; they are made once, as room for objects is scarce.
    private final Hall trial = new Hall();
    private final Hall secondTrial = new Hall();

    public HallHeating() {
        for (int i = 0; i < slots.length; i++) {
            slots[i] = new Hall();
        }
    }

    // ---- text

    public int append(int c) throws IllegalArgumentException, IllegalStateException {
        requireRange(c, 0, 255);
        if (text.length >= TEXT_LIMIT) {
            throw new IllegalStateException("the text is full");
        }
        text.add(c);
        return text.length;
    }

    public int clearText() {
        int previous = text.length;
        text.length = 0;
        return previous;
    }

    public int errorPosition() {
        return text.readInto(trial);
    }

    public int load() throws IllegalStateException {
        if (text.readInto(trial) != NONE) {
            throw new IllegalStateException("the text is not a hall");
        }
        hall.copyFrom(trial);
        memory.forgetAll();
        for (int i = 0; i < saved.length; i++) {
            saved[i] = false;
        }
        return hall.roomCount;
    }

    // ---- what there is

    public int about(int what) throws IllegalArgumentException {
        requireRange(what, 0, 9);
        return hall.numberAbout(what);
    }

    public int room(int r, int what) throws IndexOutOfBoundsException, IllegalArgumentException {
        Room found = requireRoom(r);
        requireRange(what, 0, 6);
        switch (what) {
            case 4:
                return hall.bookingOfNow(r);
            case 5:
                return hall.nextBooking(r);
            case 6:
                return hall.heatingBooking(r);
            default:
                return found.numberAbout(what);
        }
    }

    public int owes(int g) throws IndexOutOfBoundsException {
        requireGroup(g);
        return hall.owedBy(g);
    }

    public int booking(int b, int what) throws IndexOutOfBoundsException, IllegalArgumentException {
        Booking found = requireBooking(b);
        requireRange(what, 0, 9);
        if (what == 9) {
            return found.isOver(hall.hour) ? 1 : 0;
        }
        return found.numberAbout(what);
    }

    // ---- actions

    public int addRoom(int size, int loss, int power, int t)
            throws IllegalArgumentException, IllegalStateException {
        requireRange(size, 1, 9);
        requireRange(loss, 1, 9);
        requireRange(power, 1, 9);
        requireRange(t, -10, 30);
        if (hall.roomCount >= ROOM_LIMIT) {
            throw new IllegalStateException("there are 4 rooms");
        }
        memory.remember(hall);
        return hall.newRoom(size, loss, power, t);
    }

    public int addGroup() throws IllegalStateException {
        if (hall.groupCount >= GROUP_LIMIT) {
            throw new IllegalStateException("there are 6 groups");
        }
        memory.remember(hall);
        return hall.newGroup();
    }

    public int book(int r, int g, int first, int hours, int t)
            throws IndexOutOfBoundsException, IllegalArgumentException, IllegalStateException {
        requireBookingArguments(r, g, first, hours, t);
        if (!hall.hasPlaceFor(r, first, hours)) {
            throw new IllegalStateException("there are 12 bookings, or the room is taken then");
        }
        memory.remember(hall);
        return hall.newBooking(r, g, first, hours, t);
    }

    public int cancel(int b) throws IndexOutOfBoundsException, IllegalStateException {
        Booking found = requireBooking(b);
        if (!found.mayGo(hall.hour)) {
            throw new IllegalStateException("it has been preheated, or its first hour went by");
        }
        memory.remember(hall);
        hall.removeBooking(b);
        return hall.bookingCount;
    }

    public int prove(int r, boolean is) throws IndexOutOfBoundsException, IllegalStateException {
        requireRoom(r);
        int b = hall.bookingOfNow(r);
        if (b == NONE) {
            throw new IllegalStateException("no booking of this room has the hour of now");
        }
        memory.remember(hall);
        hall.mark(r, is);
        return b;
    }

    public int outside(int t) throws IllegalArgumentException {
        requireRange(t, COLDEST_OUTSIDE, WARMEST_OUTSIDE);
        memory.remember(hall);
        int previous = hall.outdoors;
        hall.outdoors = t;
        return previous;
    }

    public int pay(int g) throws IndexOutOfBoundsException {
        requireGroup(g);
        memory.remember(hall);
        return hall.settle(g);
    }

    public int pass(int hours) throws IllegalArgumentException, IllegalStateException {
        requireRange(hours, 1, MOST_PASSED_HOURS);
        if (hall.hour + hours > LAST_HOUR) {
            throw new IllegalStateException("the hour of now would become more than 240");
        }
        memory.remember(hall);
        int before = hall.meter;
        hall.letHoursPass(hours);
        return hall.meter - before;
    }

    public int undo() throws IllegalStateException {
        if (memory.count == 0) {
            throw new IllegalStateException("no state is remembered");
        }
        memory.takeBack(hall);
        return memory.count;
    }

    // ---- what would be

    public int later(int r, int hours) throws IndexOutOfBoundsException, IllegalArgumentException {
        requireRoom(r);
        requireRange(hours, 0, 48);
        trial.copyFrom(hall);
        trial.letHoursPass(hours);
        Room then = trial.findRoom(r);
        return then == null ? NONE : then.temperature;
    }

    public int begins(int b) throws IndexOutOfBoundsException {
        Booking found = requireBooking(b);
        trial.copyFrom(hall);
        int left = found.end() - hall.hour;
        for (int i = 0; i < left; i++) {
            if (trial.heatingBooking(found.room) == b) {
                return trial.hour;
            }
            trial.letHourPass();
        }
        return NONE;
    }

    public int cost(int r, int g, int first, int hours, int t)
            throws IndexOutOfBoundsException, IllegalArgumentException {
        requireBookingArguments(r, g, first, hours, t);
        if (!hall.hasPlaceFor(r, first, hours)) {
            return NONE;
        }
        int left = first + hours - hall.hour;
        trial.copyFrom(hall);
        trial.letHoursPass(left);
        secondTrial.copyFrom(hall);
        secondTrial.newBooking(r, g, first, hours, t);
        secondTrial.letHoursPass(left);
        return secondTrial.meter - trial.meter;
    }

    public int willOwe(int g) throws IndexOutOfBoundsException {
        requireGroup(g);
        passAllBookingsOnTrial();
        return trial.owedBy(g);
    }

    public int coldest() {
        passAllBookingsOnTrial();
        return trial.coldestBooking();
    }

    private void passAllBookingsOnTrial() {
        trial.copyFrom(hall);
        trial.letHoursPass(hall.endOfBookings() - hall.hour);
    }

    // ---- scripts, simulations

    public int runScript(int n, long script) throws IllegalArgumentException {
        requireRange(n, 1, 3);
        if (script < 0 || Command.withoutLast(script, n) != 0) {
            throw new IllegalArgumentException("a script has 0 to 5 * n digits");
        }
        trial.copyFrom(hall);
        for (int i = 0; i < n; i++) {
            command.become(Command.withoutLast(script, n - 1 - i));
            if (!command.succeedsOn(trial)) {
                return i;
            }
        }
        return NONE;
    }

    public int simulate(long seed, int m) throws IllegalArgumentException {
        requireRange(m, 1, 99);
        trial.copyFrom(hall);
        long x = seed;
        for (int i = 0; i < m && trial.hour < LAST_HOUR; i++) {
            x = x * 6364136223846793005L + 1442695040888963407L;
            int r = (int) (x >>> 33);
            trial.outdoors = r % 30 - 10;
            if (r / 64 % 8 == 0) {
                trial.markAll();
            }
            trial.letHourPass();
        }
        int parish = Math.min(trial.parishCharges - hall.parishCharges, 9999);
        return 1000 * parish + (trial.heatedHours - hall.heatedHours);
    }

    // ---- save slots

    public int save(int slot) throws IndexOutOfBoundsException {
        requireSlot(slot);
        slots[slot].copyFrom(hall);
        saved[slot] = true;
        return hall.hour;
    }

    public int restore(int slot) throws IndexOutOfBoundsException, IllegalStateException {
        requireSlot(slot);
        if (!saved[slot]) {
            throw new IllegalStateException("nothing has been saved in this slot since the last load");
        }
        hall.copyFrom(slots[slot]);
        memory.forgetAll();
        return hall.hour;
    }

    // ---- what calls require

    private static void requireRange(int value, int least, int most) {
        if (value < least || value > most) {
            throw new IllegalArgumentException("an argument is out of its range");
        }
    }

    private Room requireRoom(int r) {
        Room found = hall.findRoom(r);
        if (found == null) {
            throw new IndexOutOfBoundsException("there is no such room");
        }
        return found;
    }

    private void requireGroup(int g) {
        if (!hall.hasGroup(g)) {
            throw new IndexOutOfBoundsException("there is no such group");
        }
    }

    private Booking requireBooking(int b) {
        Booking found = hall.findBooking(b);
        if (found == null) {
            throw new IndexOutOfBoundsException("there is no such booking");
        }
        return found;
    }

    private static void requireSlot(int slot) {
        if (slot < 0 || slot >= SLOT_LIMIT) {
            throw new IndexOutOfBoundsException("there is no such save slot");
        }
    }

    private void requireBookingArguments(int r, int g, int first, int hours, int t) {
        requireRoom(r);
        requireGroup(g);
        requireRange(first, hall.hour, LATEST_FIRST_HOUR);
        requireRange(hours, 1, MOST_BOOKED_HOURS);
        requireRange(t, LEAST_WANTED, MOST_WANTED);
    }

    /** A room with its temperature. */
    private static final class Room {
        int size;
        int loss;
        int power;
        int temperature;

        void become(int newSize, int newLoss, int newPower, int newTemperature) {
            size = newSize;
            loss = newLoss;
            power = newPower;
            temperature = newTemperature;
        }

        void copyFrom(Room from) {
            become(from.size, from.loss, from.power, from.temperature);
        }

        int numberAbout(int what) {
            switch (what) {
                case 0:
                    return size;
                case 1:
                    return loss;
                case 2:
                    return power;
                default:
                    return temperature;
            }
        }

        /** Returns the temperature after an hour without heating. */
        int cooled(int outdoors) {
            return temperature - loss * (temperature - outdoors) / 100;
        }

        /** Heats for an hour; returns the units that it takes. */
        int warmTowards(int wanted) {
            int degrees = Math.max(0, Math.min(wanted - temperature, power));
            temperature += degrees;
            return degrees * size;
        }
    }

    /** A booking with what was heated for it. */
    private static final class Booking {
        int room;
        int group;
        int first;
        int hours;
        int wanted;
        boolean begun;
        int preheatDebt;
        int ownHeat;
        boolean marked;
        int coldHours;

        void become(int newRoom, int newGroup, int newFirst, int newHours, int newWanted) {
            room = newRoom;
            group = newGroup;
            first = newFirst;
            hours = newHours;
            wanted = newWanted;
            begun = false;
            preheatDebt = 0;
            ownHeat = 0;
            marked = false;
            coldHours = 0;
        }

        void copyFrom(Booking from) {
            become(from.room, from.group, from.first, from.hours, from.wanted);
            begun = from.begun;
            preheatDebt = from.preheatDebt;
            ownHeat = from.ownHeat;
            marked = from.marked;
            coldHours = from.coldHours;
        }

        int numberAbout(int what) {
            switch (what) {
                case 0:
                    return room;
                case 1:
                    return group;
                case 2:
                    return first;
                case 3:
                    return hours;
                case 4:
                    return wanted;
                case 5:
                    return preheatDebt;
                case 6:
                    return ownHeat;
                case 7:
                    return marked ? 1 : 0;
                default:
                    return coldHours;
            }
        }

        /** Returns the hour right behind its last one. */
        int end() {
            return first + hours;
        }

        boolean has(int hour) {
            return first <= hour && hour < first + hours;
        }

        boolean isOver(int hour) {
            return end() <= hour;
        }

        boolean meets(int otherFirst, int otherHours) {
            return first < otherFirst + otherHours && otherFirst < end();
        }

        boolean mayGo(int hour) {
            return !begun && hour <= first;
        }
    }

    /** The state: all but the text and the save slots. Its rooms and bookings are made once and used again. */
    private static final class Hall {
        int hour;
        int outdoors = FIRST_OUTSIDE;
        final Room[] rooms = new Room[ROOM_LIMIT];
        int roomCount;
        final int[] owed = new int[GROUP_LIMIT];
        int groupCount;
        final Booking[] bookings = new Booking[BOOKING_LIMIT];
        int bookingCount;
        int meter;
        int groupCharges;
        int parishCharges;
        int heatedHours;

        Hall() {
            for (int r = 0; r < rooms.length; r++) {
                rooms[r] = new Room();
            }
            for (int b = 0; b < bookings.length; b++) {
                bookings[b] = new Booking();
            }
        }

        void clear() {
            hour = 0;
            outdoors = FIRST_OUTSIDE;
            roomCount = 0;
            groupCount = 0;
            bookingCount = 0;
            meter = 0;
            groupCharges = 0;
            parishCharges = 0;
            heatedHours = 0;
        }

        void copyFrom(Hall from) {
            hour = from.hour;
            outdoors = from.outdoors;
            roomCount = from.roomCount;
            for (int r = 0; r < roomCount; r++) {
                rooms[r].copyFrom(from.rooms[r]);
            }
            groupCount = from.groupCount;
            System.arraycopy(from.owed, 0, owed, 0, GROUP_LIMIT);
            bookingCount = from.bookingCount;
            for (int b = 0; b < bookingCount; b++) {
                bookings[b].copyFrom(from.bookings[b]);
            }
            meter = from.meter;
            groupCharges = from.groupCharges;
            parishCharges = from.parishCharges;
            heatedHours = from.heatedHours;
        }

        int numberAbout(int what) {
            switch (what) {
                case 0:
                    return hour;
                case 1:
                    return roomCount;
                case 2:
                    return groupCount;
                case 3:
                    return bookingCount;
                case 4:
                    return outdoors;
                case 5:
                    return meter;
                case 6:
                    return groupCharges;
                case 7:
                    return parishCharges;
                case 8:
                    return meter - groupCharges - parishCharges;
                default:
                    return heatedHours;
            }
        }

        /** Returns null if there is no such room. */
        Room findRoom(int r) {
            return r >= 0 && r < roomCount ? rooms[r] : null;
        }

        boolean hasGroup(int g) {
            return g >= 0 && g < groupCount;
        }

        /** Returns null if there is no such booking, as for NONE. */
        Booking findBooking(int b) {
            return b >= 0 && b < bookingCount ? bookings[b] : null;
        }

        int newRoom(int size, int loss, int power, int temperature) {
            if (roomCount >= rooms.length) {
                return NONE;
            }
            rooms[roomCount].become(size, loss, power, temperature);
            roomCount++;
            return roomCount - 1;
        }

        int newGroup() {
            if (groupCount >= owed.length) {
                return NONE;
            }
            owed[groupCount] = 0;
            groupCount++;
            return groupCount - 1;
        }

        boolean hasPlaceFor(int r, int first, int hours) {
            for (int b = 0; b < bookingCount; b++) {
                if (bookings[b].room == r && bookings[b].meets(first, hours)) {
                    return false;
                }
            }
            return bookingCount < bookings.length;
        }

        int newBooking(int r, int g, int first, int hours, int wanted) {
            if (bookingCount >= bookings.length) {
                return NONE;
            }
            bookings[bookingCount].become(r, g, first, hours, wanted);
            bookingCount++;
            return bookingCount - 1;
        }

        void removeBooking(int b) {
            Booking gone = findBooking(b);
            if (gone == null) {
                return;
            }
            for (int i = b + 1; i < bookingCount; i++) {
                bookings[i - 1] = bookings[i];
            }
            bookingCount--;
            bookings[bookingCount] = gone;
        }

        /** Returns the booking that has the hour of now in a room, or NONE. */
        int bookingOfNow(int r) {
            for (int b = 0; b < bookingCount; b++) {
                if (bookings[b].room == r && bookings[b].has(hour)) {
                    return b;
                }
            }
            return NONE;
        }

        /** Returns the booking of a room with the smallest first hour above the hour of now, or NONE. */
        int nextBooking(int r) {
            int next = NONE;
            int nextFirst = LATEST_FIRST_HOUR + 1;
            for (int b = 0; b < bookingCount; b++) {
                int first = bookings[b].first;
                if (bookings[b].room == r && first > hour && first < nextFirst) {
                    next = b;
                    nextFirst = first;
                }
            }
            return next;
        }

        /** Returns the booking that heats a room in the hour of now, or NONE. */
        int heatingBooking(int r) {
            int own = bookingOfNow(r);
            if (own != NONE) {
                return own;
            }
            int next = nextBooking(r);
            return mustPreheat(findRoom(r), findBooking(next)) ? next : NONE;
        }

        private boolean mustPreheat(Room room, Booking next) {
            if (room == null || next == null) {
                return false;
            }
            int hoursBetween = next.first - 1 - hour;
            return next.begun || room.cooled(outdoors) + room.power * hoursBetween < next.wanted;
        }

        void mark(int r, boolean empty) {
            Booking own = findBooking(bookingOfNow(r));
            if (own != null) {
                own.marked = empty;
            }
        }

        void markAll() {
            for (int r = 0; r < roomCount; r++) {
                mark(r, true);
            }
        }

        int owedBy(int g) {
            return hasGroup(g) ? owed[g] : 0;
        }

        /** Takes what a group owes as paid, also if it is below 0; returns what it owed. */
        int settle(int g) {
            if (!hasGroup(g)) {
                return 0;
            }
            int units = owed[g];
            owed[g] = 0;
            return units;
        }

        void letHoursPass(int hours) {
            for (int i = 0; i < hours; i++) {
                letHourPass();
            }
        }

        void letHourPass() {
            int heat = 0;
            for (int r = 0; r < roomCount; r++) {
                heat += heatRoom(rooms[r], findBooking(heatingBooking(r)));
            }
            // The pilot flame takes one unit for all rooms together.
            meter += heat > 0 ? heat + 1 : 0;
            hour++;
            for (int b = 0; b < bookingCount; b++) {
                bookings[b].marked = false;
                if (bookings[b].end() == hour) {
                    leaveHeat(bookings[b]);
                }
            }
        }

        /** Lets the hour of now go by in a room, heated for a booking or for none (null); returns its heat. */
        private int heatRoom(Room room, Booking heating) {
            int before = room.temperature;
            room.temperature = room.cooled(outdoors);
            if (heating == null) {
                return 0;
            }
            int heat = room.warmTowards(heating.wanted);
            if (heat > 0) {
                heatedHours++;
            }
            if (heating.has(hour)) {
                chargeOwnHour(heating, heat, before);
            } else {
                chargePreheat(heating, heat);
            }
            return heat;
        }

        private void chargePreheat(Booking heating, int heat) {
            heating.begun = true;
            heating.preheatDebt += heat;
            chargeGroup(heating.group, heat);
        }

        private void chargeOwnHour(Booking heating, int heat, int temperatureBefore) {
            heating.ownHeat += heat;
            if (temperatureBefore < heating.wanted - 1) {
                heating.coldHours++;
            }
            if (heating.marked) {
                parishCharges += heat;
            } else {
                chargeGroup(heating.group, heat);
            }
        }

        private void chargeGroup(int g, int units) {
            if (g >= 0 && g < groupCount) {
                owed[g] += units;
                groupCharges += units;
            }
        }

        /** Moves half of the preheat debt of a booking that is over to the group right behind it. */
        private void leaveHeat(Booking over) {
            int half = over.preheatDebt / 2;
            for (int b = 0; b < bookingCount; b++) {
                Booking behind = bookings[b];
                if (behind.room == over.room && behind.first == over.end() && behind.group != over.group) {
                    chargeGroup(over.group, -half);
                    chargeGroup(behind.group, half);
                }
            }
        }

        /** Returns the hour in which all bookings are over; 0 without bookings. */
        int endOfBookings() {
            int end = 0;
            for (int b = 0; b < bookingCount; b++) {
                end = Math.max(end, bookings[b].end());
            }
            return end;
        }

        /** Returns the booking with the most cold hours, the smallest number among several; NONE without one. */
        int coldestBooking() {
            int coldest = NONE;
            int most = -1;
            for (int b = 0; b < bookingCount; b++) {
                if (bookings[b].coldHours > most) {
                    coldest = b;
                    most = bookings[b].coldHours;
                }
            }
            return coldest;
        }
    }

    /** The states ahead of the last actions, in a ring. */
    private static final class Memory {
        private final Hall[] states = new Hall[MEMORY_LIMIT];
        private int nextPlace;
        int count;

        Memory() {
            for (int i = 0; i < states.length; i++) {
                states[i] = new Hall();
            }
        }

        void remember(Hall hall) {
            states[nextPlace].copyFrom(hall);
            nextPlace = (nextPlace + 1) % MEMORY_LIMIT;
            count = Math.min(count + 1, MEMORY_LIMIT);
        }

        void takeBack(Hall hall) {
            if (count == 0) {
                return;
            }
            nextPlace = (nextPlace + MEMORY_LIMIT - 1) % MEMORY_LIMIT;
            count--;
            hall.copyFrom(states[nextPlace]);
        }

        void forgetAll() {
            count = 0;
        }
    }

    /** The text buffer, and the reading of a hall from it. */
    private static final class HallText {
        private final int[] signs = new int[TEXT_LIMIT];
        int length;
        private int at;
        // The error position of this reading as soon as one is found; what is read behind it does not count.
        private int error;

        void add(int c) {
            if (length < signs.length) {
                signs[length] = c;
                length++;
            }
        }

        /** Reads the text as a hall into another object; returns the error position, NONE if it is a hall. */
        int readInto(Hall hall) {
            hall.clear();
            at = 0;
            error = NONE;
            require(sign() == 'H');
            for (int part = 0; part < TEXT_LIMIT && error == NONE && at < length; part++) {
                readPart(hall);
            }
            return error;
        }

        private void readPart(Hall hall) {
            switch (sign()) {
                case 'r':
                    readRoom(hall);
                    break;
                case 'g':
                    readGroup(hall);
                    break;
                case 'o':
                    readOutdoors(hall);
                    break;
                case 'b':
                    readBooking(hall);
                    break;
                default:
                    require(false);
            }
        }

        private void readRoom(Hall hall) {
            require(hall.roomCount < ROOM_LIMIT);
            int size = readNumber(1, 1, 9);
            int loss = readNumber(1, 1, 9);
            int power = readNumber(1, 1, 9);
            int temperature = readNumber(2, 0, 30);
            if (error == NONE) {
                hall.newRoom(size, loss, power, temperature);
            }
        }

        private void readGroup(Hall hall) {
            require(hall.groupCount < GROUP_LIMIT);
            if (error == NONE) {
                hall.newGroup();
            }
        }

        private void readOutdoors(Hall hall) {
            at++;
            boolean frost = sign() == '-';
            require(frost || sign() == '+');
            int degrees = frost ? readNumber(2, 1, 20) : readNumber(2, 0, 25);
            if (error == NONE) {
                hall.outdoors = frost ? -degrees : degrees;
            }
        }

        private void readBooking(Hall hall) {
            int start = at;
            require(hall.roomCount > 0 && hall.groupCount > 0 && hall.bookingCount < BOOKING_LIMIT);
            int r = readNumber(1, 0, hall.roomCount - 1);
            int g = readNumber(1, 0, hall.groupCount - 1);
            int first = readNumber(3, 0, LATEST_FIRST_HOUR);
            int hours = readNumber(2, 1, MOST_BOOKED_HOURS);
            int wanted = readNumber(2, LEAST_WANTED, MOST_WANTED);
            if (error != NONE) {
                return;
            }
            if (hall.hasPlaceFor(r, first, hours)) {
                hall.newBooking(r, g, first, hours, wanted);
            } else {
                error = start;
            }
        }

        /** Returns the sign at this place, -1 behind the text. */
        private int sign() {
            return at >= 0 && at < length && at < signs.length ? signs[at] : -1;
        }

        /** Goes on behind the sign at this place if it is allowed; otherwise this is the error position. */
        private void require(boolean allowed) {
            if (error != NONE) {
                return;
            }
            if (allowed) {
                at++;
            } else {
                error = at;
            }
        }

        /** Reads a number of so many digits from least to most; each digit must begin such a number. */
        private int readNumber(int digits, int least, int most) {
            int unit = 1;
            for (int i = 1; i < digits; i++) {
                unit *= 10;
            }
            int value = 0;
            for (int i = 0; i < digits; i++) {
                int digit = sign() - '0';
                value += digit * unit;
                require(digit >= 0 && digit <= 9 && value <= most && value + unit - 1 >= least);
                unit /= 10;
            }
            return value;
        }
    }

    /** One command of a script: a group of five digits. */
    private static final class Command {
        private int kind;
        private int d2;
        private int d3;
        private int d4;
        private int d5;

        /** Returns a script without so many commands at its end. */
        static long withoutLast(long script, int count) {
            long rest = script;
            for (int i = 0; i < count; i++) {
                rest /= 100000;
            }
            return rest;
        }

        /** Becomes the last command of a script. */
        void become(long script) {
            int group = (int) (script % 100000);
            kind = group / 10000;
            d2 = group / 1000 % 10;
            d3 = group / 100 % 10;
            d4 = group / 10 % 10;
            d5 = group % 10;
        }

        /** Does the command on a hall; returns whether it succeeds. */
        boolean succeedsOn(Hall hall) {
            switch (kind) {
                case 1:
                    return d2 == 0 && d3 == 0 && letsPass(hall, 10 * d4 + d5);
                case 2:
                    return d2 == 0 && d3 <= 1 && changesOutdoors(hall, 10 * d4 + d5);
                case 3:
                    return d3 <= 1 && d4 == 0 && d5 == 0 && proves(hall);
                case 4:
                    return d3 == 0 && d4 == 0 && d5 == 0 && pays(hall);
                case 5:
                    return d4 == 0 && d5 == 0 && cancels(hall);
                case 6:
                    return d3 == 0 && isAsWarm(hall.findRoom(d2), 10 * d4 + d5);
                case 7:
                    return hall.hasGroup(d2) && hall.owedBy(d2) <= 100 * d3 + 10 * d4 + d5;
                case 8:
                    return d4 == 0 && d5 <= 1 && isOverOrNot(hall);
                case 9:
                    return hall.meter >= 1000 * d2 + 100 * d3 + 10 * d4 + d5;
                default:
                    return false;
            }
        }

        private boolean letsPass(Hall hall, int hours) {
            if (hours < 1 || hours > MOST_PASSED_HOURS || hall.hour + hours > LAST_HOUR) {
                return false;
            }
            for (int i = 0; i < hours; i++) {
                hall.letHourPass();
            }
            return true;
        }

        private boolean changesOutdoors(Hall hall, int degrees) {
            int t = d3 == 1 ? -degrees : degrees;
            if (t < COLDEST_OUTSIDE || t > WARMEST_OUTSIDE) {
                return false;
            }
            hall.outdoors = t;
            return true;
        }

        private boolean proves(Hall hall) {
            if (hall.findRoom(d2) == null || hall.bookingOfNow(d2) == NONE) {
                return false;
            }
            hall.mark(d2, d3 == 1);
            return true;
        }

        private boolean pays(Hall hall) {
            if (!hall.hasGroup(d2)) {
                return false;
            }
            hall.settle(d2);
            return true;
        }

        private boolean cancels(Hall hall) {
            int b = 10 * d2 + d3;
            Booking found = hall.findBooking(b);
            if (found == null || !found.mayGo(hall.hour)) {
                return false;
            }
            hall.removeBooking(b);
            return true;
        }

        private boolean isAsWarm(Room room, int degrees) {
            return room != null && room.temperature >= degrees;
        }

        private boolean isOverOrNot(Hall hall) {
            Booking found = hall.findBooking(10 * d2 + d3);
            return found != null && found.isOver(hall.hour) == (d5 == 1);
        }
    }
}

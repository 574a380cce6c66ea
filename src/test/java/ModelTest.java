import java.util.ArrayList;
import java.util.List;
import java.util.Random;

/**
 * Compares HallHeating, call by call, with a second program that is written another way (deep copies, lists, texts
 * tried against written-out numbers), on many runs of calls made from fixed seeds.
 */
public final class ModelTest {
    private static final int NONE = -99;
    private static final int RUNS = 1500;
    private static int wrong = 0;

    /** What a call answers: a number, or the name of what it throws. */
    private interface Call {
        long answer();
    }

    private static String outcome(Call call) {
        try {
            return Long.toString(call.answer());
        } catch (RuntimeException e) {
            return e.getClass().getName();
        }
    }

    // ---- the model

    private static final class R implements Cloneable {
        int size, loss, power, t;
        R copy() { R c = new R(); c.size = size; c.loss = loss; c.power = power; c.t = t; return c; }
    }

    private static final class B {
        R room; int group, first, hours, wanted, debt, heat, cold; boolean preheated, mark;
        int last() { return first + hours - 1; }
        B copy(R into) {
            B c = new B();
            c.room = into; c.group = group; c.first = first; c.hours = hours; c.wanted = wanted; c.debt = debt;
            c.heat = heat; c.cold = cold; c.preheated = preheated; c.mark = mark;
            return c;
        }
    }

    private static final class S {
        int hour = 0, out = 5, pilot = 0, parish = 0, hot = 0;
        List<R> rooms = new ArrayList<>();
        List<Integer> charged = new ArrayList<>();
        List<Integer> paid = new ArrayList<>();
        List<B> bookings = new ArrayList<>();

        S copy() {
            S c = new S();
            c.hour = hour; c.out = out; c.pilot = pilot; c.parish = parish; c.hot = hot;
            for (R r : rooms) c.rooms.add(r.copy());
            c.charged.addAll(charged);
            c.paid.addAll(paid);
            for (B b : bookings) c.bookings.add(b.copy(c.rooms.get(rooms.indexOf(b.room))));
            return c;
        }

        int groupsTogether() { int sum = 0; for (int x : charged) sum += x; return sum; }
        int meter() { return pilot + parish + groupsTogether(); }
        int owed(int g) { return charged.get(g) - paid.get(g); }

        B at(R r, int h) {
            for (B b : bookings) if (b.room == r && h >= b.first && h <= b.last()) return b;
            return null;
        }

        B next(R r) {
            for (int h = hour + 1; h <= 199; h++) for (B b : bookings) if (b.room == r && b.first == h) return b;
            return null;
        }

        static int toZero(int product) { return product < 0 ? -(-product / 100) : product / 100; }

        B heating(R r) {
            B b = at(r, hour);
            if (b != null) return b;
            b = next(r);
            if (b == null || b.preheated) return b;
            int t = r.t - toZero(r.loss * (r.t - out));
            for (int h = hour + 1; h <= b.first - 1; h++) t += r.power;
            return t < b.wanted ? b : null;
        }

        void charge(int g, int units) { charged.set(g, charged.get(g) + units); }

        void goBy() {
            boolean flame = false;
            for (R r : rooms) {
                B b = heating(r);
                int start = r.t;
                r.t = r.t - toZero(r.loss * (r.t - out));
                int units = 0;
                if (b != null) {
                    for (int i = 0; i < r.power && r.t < b.wanted; i++) { r.t++; units += r.size; }
                    if (hour < b.first) {
                        b.preheated = true;
                        b.debt += units;
                        charge(b.group, units);
                    } else {
                        if (start < b.wanted - 1) b.cold++;
                        b.heat += units;
                        if (b.mark) parish += units; else charge(b.group, units);
                        if (hour == b.last()) {
                            B behind = at(r, hour + 1);
                            if (behind != null && behind.group != b.group) {
                                charge(b.group, -(b.debt / 2));
                                charge(behind.group, b.debt / 2);
                            }
                        }
                    }
                }
                if (units > 0) { flame = true; hot++; }
            }
            if (flame) pilot++;
            for (B b : bookings) b.mark = false;
            hour++;
        }

        boolean allOver() { for (B b : bookings) if (hour <= b.last()) return false; return true; }
        void goByToTheEnd() { while (!allOver()) goBy(); }
    }

    private static final class Model {
        StringBuilder text = new StringBuilder();
        S s = new S();
        List<S> past = new ArrayList<>();
        S[] slots = new S[2];

        static void arg(boolean fine) { if (!fine) throw new IllegalArgumentException(); }
        static void state(boolean fine) { if (!fine) throw new IllegalStateException(); }
        static void index(boolean fine) { if (!fine) throw new IndexOutOfBoundsException(); }
        void hasRoom(int r) { index(r >= 0 && r < s.rooms.size()); }
        void hasGroup(int g) { index(g >= 0 && g < s.charged.size()); }
        void hasBooking(int b) { index(b >= 0 && b < s.bookings.size()); }
        void act() { past.add(s.copy()); if (past.size() > 14) past.remove(0); }

        int append(int c) { arg(c >= 0 && c <= 255); state(text.length() < 120); text.append((char) c); return text.length(); }
        int clearText() { int n = text.length(); text = new StringBuilder(); return n; }

        // Each part is written as kinds of fields; a field is what numbers it may hold, written out.
        static List<String> numbers(int digits, int from, int to) {
            List<String> all = new ArrayList<>();
            for (int i = from; i <= to; i++) {
                String n = Integer.toString(i);
                while (n.length() < digits) n = "0" + n;
                all.add(n);
            }
            return all;
        }

        int at;
        String read(List<String> allowed) {
            String so = "";
            while (true) {
                for (String a : allowed) if (a.equals(so)) return so;
                boolean fits = false;
                if (at < text.length()) for (String a : allowed) if (a.startsWith(so + text.charAt(at))) fits = true;
                if (!fits) return null;
                so += text.charAt(at);
                at++;
            }
        }

        /** Returns the error position; fills the state given. */
        int parse(S into) {
            at = 0;
            if (read(List.of("H")) == null) return at;
            while (at < text.length()) {
                int start = at;
                List<String> parts = new ArrayList<>();
                parts.add("o");
                if (into.rooms.size() < 4) parts.add("r");
                if (into.charged.size() < 6) parts.add("g");
                if (into.bookings.size() < 12 && !into.rooms.isEmpty() && !into.charged.isEmpty()) parts.add("b");
                String part = read(parts);
                if (part == null) return at;
                List<List<String>> fields = new ArrayList<>();
                if (part.equals("r")) {
                    for (int i = 0; i < 3; i++) fields.add(numbers(1, 1, 9));
                    fields.add(numbers(2, 0, 30));
                } else if (part.equals("o")) {
                    List<String> all = new ArrayList<>();
                    for (String n : numbers(2, 0, 25)) all.add("+" + n);
                    for (String n : numbers(2, 1, 20)) all.add("-" + n);
                    fields.add(all);
                } else if (part.equals("b")) {
                    fields.add(numbers(1, 0, into.rooms.size() - 1));
                    fields.add(numbers(1, 0, into.charged.size() - 1));
                    fields.add(numbers(3, 0, 199));
                    fields.add(numbers(2, 1, 12));
                    fields.add(numbers(2, 12, 25));
                }
                int[] v = new int[fields.size()];
                for (int i = 0; i < v.length; i++) {
                    String got = read(fields.get(i));
                    if (got == null) return at;
                    v[i] = Integer.parseInt(got);
                }
                if (part.equals("r")) room(into, v[0], v[1], v[2], v[3]);
                if (part.equals("g")) group(into);
                if (part.equals("o")) into.out = v[0];
                if (part.equals("b")) {
                    if (clash(into, v[0], v[2], v[3])) return start;
                    booked(into, v[0], v[1], v[2], v[3], v[4]);
                }
            }
            return NONE;
        }

        static void room(S s, int size, int loss, int power, int t) {
            R r = new R(); r.size = size; r.loss = loss; r.power = power; r.t = t; s.rooms.add(r);
        }
        static void group(S s) { s.charged.add(0); s.paid.add(0); }
        static boolean clash(S s, int r, int first, int hours) {
            for (int h = first; h < first + hours; h++) if (s.at(s.rooms.get(r), h) != null) return true;
            return false;
        }
        static void booked(S s, int r, int g, int first, int hours, int t) {
            B b = new B(); b.room = s.rooms.get(r); b.group = g; b.first = first; b.hours = hours; b.wanted = t; s.bookings.add(b);
        }

        int errorPosition() { return parse(new S()); }
        int load() {
            S fresh = new S();
            state(parse(fresh) == NONE);
            s = fresh; past.clear(); slots = new S[2];
            return s.rooms.size();
        }
        int about(int what) {
            arg(what >= 0 && what <= 9);
            return new int[] {s.hour, s.rooms.size(), s.charged.size(), s.bookings.size(), s.out, s.meter(),
                s.groupsTogether(), s.parish, s.pilot, s.hot}[what];
        }
        int number(B b) { return b == null ? NONE : s.bookings.indexOf(b); }
        int room(int r, int what) {
            hasRoom(r);
            arg(what >= 0 && what <= 6);
            R x = s.rooms.get(r);
            return new int[] {x.size, x.loss, x.power, x.t, number(s.at(x, s.hour)), number(s.next(x)), number(s.heating(x))}[what];
        }
        int owes(int g) { hasGroup(g); return s.owed(g); }
        int booking(int b, int what) {
            hasBooking(b);
            arg(what >= 0 && what <= 9);
            B x = s.bookings.get(b);
            return new int[] {s.rooms.indexOf(x.room), x.group, x.first, x.hours, x.wanted, x.debt, x.heat, x.mark ? 1 : 0,
                x.cold, s.hour > x.last() ? 1 : 0}[what];
        }
        int addRoom(int size, int loss, int power, int t) {
            arg(size >= 1 && size <= 9 && loss >= 1 && loss <= 9 && power >= 1 && power <= 9 && t >= -10 && t <= 30);
            state(s.rooms.size() < 4);
            act();
            room(s, size, loss, power, t);
            return s.rooms.size() - 1;
        }
        int addGroup() { state(s.charged.size() < 6); act(); group(s); return s.charged.size() - 1; }
        void bookArgs(int r, int g, int first, int hours, int t) {
            hasRoom(r);
            hasGroup(g);
            arg(first >= s.hour && first <= 199 && hours >= 1 && hours <= 12 && t >= 12 && t <= 25);
        }
        boolean bookable(int r, int first, int hours) { return s.bookings.size() < 12 && !clash(s, r, first, hours); }
        int book(int r, int g, int first, int hours, int t) {
            bookArgs(r, g, first, hours, t);
            state(bookable(r, first, hours));
            act();
            booked(s, r, g, first, hours, t);
            return s.bookings.size() - 1;
        }
        static void cancelOn(S s, int b) {
            index(b < s.bookings.size() && b >= 0);
            B x = s.bookings.get(b);
            state(!x.preheated && s.hour <= x.first);
            s.bookings.remove(b);
        }
        int cancel(int b) {
            S then = s.copy();
            cancelOn(then, b);
            act();
            s = then;
            return s.bookings.size();
        }
        static int proveOn(S s, int r, boolean is) {
            index(r >= 0 && r < s.rooms.size());
            B b = s.at(s.rooms.get(r), s.hour);
            state(b != null);
            b.mark = is;
            return s.bookings.indexOf(b);
        }
        int prove(int r, boolean is) {
            S then = s.copy();
            int b = proveOn(then, r, is);
            act();
            s = then;
            return b;
        }
        int outside(int t) { arg(t >= -20 && t <= 25); act(); int was = s.out; s.out = t; return was; }
        int pay(int g) { hasGroup(g); act(); int was = s.owed(g); s.paid.set(g, s.charged.get(g)); return was; }
        int pass(int hours) {
            arg(hours >= 1 && hours <= 48);
            state(s.hour + hours <= 240);
            act();
            int was = s.meter();
            for (int i = 0; i < hours; i++) s.goBy();
            return s.meter() - was;
        }
        int undo() { state(!past.isEmpty()); s = past.remove(past.size() - 1); return past.size(); }
        int later(int r, int hours) {
            hasRoom(r);
            arg(hours >= 0 && hours <= 48);
            S c = s.copy();
            for (int i = 0; i < hours; i++) c.goBy();
            return c.rooms.get(r).t;
        }
        int begins(int b) {
            hasBooking(b);
            S c = s.copy();
            B x = c.bookings.get(b);
            while (c.hour <= x.last()) {
                if (c.heating(x.room) == x) return c.hour;
                c.goBy();
            }
            return NONE;
        }
        int cost(int r, int g, int first, int hours, int t) {
            bookArgs(r, g, first, hours, t);
            if (!bookable(r, first, hours)) return NONE;
            S with = s.copy(), without = s.copy();
            booked(with, r, g, first, hours, t);
            while (with.hour < first + hours) with.goBy();
            while (without.hour < first + hours) without.goBy();
            return with.meter() - without.meter();
        }
        int willOwe(int g) { hasGroup(g); S c = s.copy(); c.goByToTheEnd(); return c.owed(g); }
        int coldest() {
            S c = s.copy();
            c.goByToTheEnd();
            int best = NONE;
            for (int b = c.bookings.size() - 1; b >= 0; b--)
                if (best == NONE || c.bookings.get(b).cold >= c.bookings.get(best).cold) best = b;
            return best;
        }
        int runScript(int n, long script) {
            arg(n >= 1 && n <= 3);
            arg(script >= 0 && Long.toString(script).length() <= 5 * n);
            String digits = Long.toString(script);
            while (digits.length() < 5 * n) digits = "0" + digits;
            S c = s.copy();
            for (int i = 0; i < n; i++) {
                try {
                    command(c, digits.substring(5 * i, 5 * i + 5));
                } catch (RuntimeException e) {
                    return i;
                }
            }
            return NONE;
        }
        static void command(S c, String d) {
            int[] x = new int[6];
            for (int i = 1; i <= 5; i++) x[i] = d.charAt(i - 1) - '0';
            int last2 = x[4] * 10 + x[5], first2 = x[2] * 10 + x[3];
            if (d.matches("100\\d\\d")) {
                arg(last2 >= 1 && last2 <= 48 && c.hour + last2 <= 240);
                for (int i = 0; i < last2; i++) c.goBy();
            } else if (d.matches("20[01]\\d\\d")) {
                int t = x[3] == 1 ? -last2 : last2;
                arg(t >= -20 && t <= 25);
                c.out = t;
            } else if (d.matches("3\\d[01]00")) {
                proveOn(c, x[2], x[3] == 1);
            } else if (d.matches("4\\d000")) {
                index(x[2] < c.charged.size());
                c.paid.set(x[2], c.charged.get(x[2]));
            } else if (d.matches("5\\d\\d00")) {
                cancelOn(c, first2);
            } else if (d.matches("6\\d0\\d\\d")) {
                index(x[2] < c.rooms.size());
                arg(c.rooms.get(x[2]).t >= last2);
            } else if (d.matches("7\\d\\d\\d\\d")) {
                index(x[2] < c.charged.size());
                arg(c.owed(x[2]) <= x[3] * 100 + last2);
            } else if (d.matches("8\\d\\d0[01]")) {
                index(first2 < c.bookings.size());
                arg((c.hour > c.bookings.get(first2).last()) == (x[5] == 1));
            } else if (d.matches("9\\d\\d\\d\\d")) {
                arg(c.meter() >= first2 * 100 + last2);
            } else {
                arg(false);
            }
        }
        int simulate(long seed, int m) {
            arg(m >= 1 && m <= 99);
            S c = s.copy();
            long x = seed;
            for (int i = 0; i < m; i++) {
                if (c.hour == 240) break;
                x = x * 6364136223846793005L + 1442695040888963407L;
                int r = (int) (x >>> 33);
                c.out = r % 30 - 10;
                if (r / 64 % 8 == 0) for (B b : c.bookings) if (b.first <= c.hour && c.hour <= b.last()) b.mark = true;
                c.goBy();
            }
            int parish = c.parish - s.parish;
            return 1000 * (parish > 9999 ? 9999 : parish) + c.hot - s.hot;
        }
        int save(int slot) { index(slot == 0 || slot == 1); slots[slot] = s.copy(); return s.hour; }
        int restore(int slot) {
            index(slot == 0 || slot == 1);
            state(slots[slot] != null);
            s = slots[slot].copy();
            past.clear();
            return s.hour;
        }
    }

    // ---- the runs

    private static final class Run {
        final int seed;
        final Random random;
        final HallHeating real = new HallHeating();
        final Model model = new Model();
        final StringBuilder told = new StringBuilder();
        int calls = 0;
        boolean stopped = false;

        Run(int seed) { this.seed = seed; random = new Random(seed); }

        /** From least to most, now and then a bit outside. */
        int near(int least, int most) {
            if (random.nextInt(25) == 0) return random.nextBoolean() ? least - 1 - random.nextInt(2) : most + 1 + random.nextInt(2);
            if (random.nextInt(200) == 0) return random.nextBoolean() ? Integer.MIN_VALUE : Integer.MAX_VALUE;
            return least + random.nextInt(most - least + 1);
        }
        int inside(int least, int most) { return least + random.nextInt(most - least + 1); }

        void both(String call, Call onReal, Call onModel) {
            if (stopped || calls >= 512) return;
            calls++;
            String got = outcome(onReal), due = outcome(onModel);
            told.append(call).append(" -> ").append(got).append('\n');
            if (!got.equals(due)) {
                wrong++;
                stopped = true;
                System.out.println("seed " + seed + ", call " + calls + ": " + call + " answered " + got + ", due is " + due);
                if (wrong == 1) System.out.println(told);
            }
        }

        void look() {
            for (int i = 0; i <= 9; i++) { int w = i; both("about(" + w + ")", () -> real.about(w), () -> model.about(w)); }
            for (int i = 0; i < model.s.rooms.size(); i++) {
                int r = i;
                both("room(" + r + ", 3)", () -> real.room(r, 3), () -> model.room(r, 3));
                both("room(" + r + ", 6)", () -> real.room(r, 6), () -> model.room(r, 6));
            }
            for (int i = 0; i < model.s.charged.size(); i++) { int g = i; both("owes(" + g + ")", () -> real.owes(g), () -> model.owes(g)); }
            for (int i = 0; i < model.s.bookings.size(); i++) {
                int b = i;
                for (int j = 5; j <= 8; j++) { int w = j; both("booking(" + b + ", " + w + ")", () -> real.booking(b, w), () -> model.booking(b, w)); }
            }
        }

        String hallText() {
            StringBuilder t = new StringBuilder("H");
            int parts = random.nextInt(16);
            for (int i = 0; i < parts; i++) {
                int kind = i == 0 ? 0 : i == 1 ? 2 : random.nextInt(8);
                if (kind <= 1) t.append('r').append(inside(1, 9)).append(inside(1, 9)).append(inside(1, 9)).append(String.format("%02d", inside(0, 30)));
                else if (kind == 2) t.append('g');
                else if (kind == 3) t.append(random.nextBoolean() ? String.format("o+%02d", inside(0, 25)) : String.format("o-%02d", inside(1, 20)));
                else t.append('b').append(random.nextInt(10) == 0 ? inside(0, 5) : 0).append(random.nextInt(3) == 0 ? inside(0, 6) : 0)
                    .append(String.format("%03d%02d%02d", inside(0, random.nextBoolean() ? 40 : 199), inside(1, random.nextBoolean() ? 3 : 12), inside(12, 25)));
            }
            if (random.nextInt(3) == 0 && t.length() > 1) t.setLength(random.nextInt(t.length()));
            if (random.nextInt(3) == 0 && t.length() > 0) t.setCharAt(random.nextInt(t.length()), "Hrgob0123456789+-x\u00ff\0".charAt(random.nextInt(20)));
            if (t.length() > 120) t.setLength(120);
            return t.toString();
        }

        void text() {
            both("clearText()", real::clearText, model::clearText);
            for (char c : hallText().toCharArray()) both("append(" + (int) c + ")", () -> real.append(c), () -> model.append(c));
            both("errorPosition()", real::errorPosition, model::errorPosition);
            both("load()", real::load, model::load);
        }

        long scriptCommand() {
            int kind = random.nextInt(12);
            int a = inside(0, 3), s = inside(0, 2), z = inside(0, 99);
            switch (kind) {
                case 1: return 10000 + inside(0, 50);
                case 2: return 20000 + s * 100 + inside(0, 27);
                case 3: return 30000 + a * 1000 + s * 100;
                case 4: return 40000 + a * 1000;
                case 5: return 50000 + inside(0, 12) * 100;
                case 6: return 60000 + a * 1000 + inside(0, 30);
                case 7: return 70000 + a * 1000 + inside(0, 200);
                case 8: return 80000 + inside(0, 12) * 100 + s;
                case 9: return 90000 + inside(0, 400);
                default: return random.nextInt(100000);
            }
        }

        void script() {
            int n = near(1, 3);
            long script = 0;
            for (int i = 0; i < n && i < 3; i++) script = script * 100000 + scriptCommand();
            if (random.nextInt(30) == 0) script = script * 10 + 1;
            if (random.nextInt(50) == 0) script = random.nextBoolean() ? -1 : random.nextLong();
            long s = script;
            both("runScript(" + n + ", " + s + ")", () -> real.runScript(n, s), () -> model.runScript(n, s));
        }

        void action() {
            int now = model.s.hour;
            int r = near(0, Math.max(0, model.s.rooms.size() - 1)), g = near(0, Math.max(0, model.s.charged.size() - 1));
            int b = near(0, Math.max(0, model.s.bookings.size() - 1));
            int first = random.nextInt(3) == 0 ? near(now, Math.max(now, 199)) : now + random.nextInt(12);
            int hours = random.nextInt(3) == 0 ? near(1, 12) : inside(1, 3);
            int t = near(12, 25);
            switch (random.nextInt(14)) {
                case 0: {
                    int size = near(1, 9), loss = near(1, 9), power = near(1, 9), warm = near(-10, 30);
                    both("addRoom(" + size + ", " + loss + ", " + power + ", " + warm + ")", () -> real.addRoom(size, loss, power, warm), () -> model.addRoom(size, loss, power, warm));
                    break;
                }
                case 1: both("addGroup()", real::addGroup, model::addGroup); break;
                case 2: case 3: case 4: case 5:
                    both("book(" + r + ", " + g + ", " + first + ", " + hours + ", " + t + ")", () -> real.book(r, g, first, hours, t), () -> model.book(r, g, first, hours, t));
                    break;
                case 6: both("cancel(" + b + ")", () -> real.cancel(b), () -> model.cancel(b)); break;
                case 7: case 8: {
                    boolean is = random.nextInt(4) != 0;
                    both("prove(" + r + ", " + is + ")", () -> real.prove(r, is), () -> model.prove(r, is));
                    break;
                }
                case 9: { int o = near(-20, 25); both("outside(" + o + ")", () -> real.outside(o), () -> model.outside(o)); break; }
                case 10: both("pay(" + g + ")", () -> real.pay(g), () -> model.pay(g)); break;
                case 11: case 12: {
                    int h = random.nextInt(8) == 0 ? near(1, 48) : inside(1, 4);
                    both("pass(" + h + ")", () -> real.pass(h), () -> model.pass(h));
                    break;
                }
                default: both("undo()", real::undo, model::undo);
            }
        }

        void question() {
            int now = model.s.hour;
            int r = near(0, Math.max(0, model.s.rooms.size() - 1)), g = near(0, Math.max(0, model.s.charged.size() - 1));
            int b = near(0, Math.max(0, model.s.bookings.size() - 1));
            int first = random.nextInt(4) == 0 ? near(now, Math.max(now, 199)) : now + random.nextInt(12);
            int hours = near(1, 12), t = near(12, 25), slot = near(0, 1);
            switch (random.nextInt(13)) {
                case 0: { int h = near(0, 48); both("later(" + r + ", " + h + ")", () -> real.later(r, h), () -> model.later(r, h)); break; }
                case 1: both("begins(" + b + ")", () -> real.begins(b), () -> model.begins(b)); break;
                case 2: case 3:
                    both("cost(" + r + ", " + g + ", " + first + ", " + hours + ", " + t + ")", () -> real.cost(r, g, first, hours, t), () -> model.cost(r, g, first, hours, t));
                    break;
                case 4: both("willOwe(" + g + ")", () -> real.willOwe(g), () -> model.willOwe(g)); break;
                case 5: both("coldest()", real::coldest, model::coldest); break;
                case 6: script(); break;
                case 7: {
                    long seed = random.nextLong();
                    int m = near(1, 99);
                    both("simulate(" + seed + ", " + m + ")", () -> real.simulate(seed, m), () -> model.simulate(seed, m));
                    break;
                }
                case 8: both("save(" + slot + ")", () -> real.save(slot), () -> model.save(slot)); break;
                case 9: if (random.nextInt(3) == 0) both("restore(" + slot + ")", () -> real.restore(slot), () -> model.restore(slot)); break;
                case 10: { int w = near(0, 6); both("room(" + r + ", " + w + ")", () -> real.room(r, w), () -> model.room(r, w)); break; }
                case 11: { int w = near(0, 9); both("booking(" + b + ", " + w + ")", () -> real.booking(b, w), () -> model.booking(b, w)); break; }
                default: { int w = near(0, 9); both("about(" + w + ")", () -> real.about(w), () -> model.about(w)); both("owes(" + g + ")", () -> real.owes(g), () -> model.owes(g)); }
            }
        }

        void go() {
            if (random.nextBoolean()) text();
            for (int i = 0; i < 160; i++) {
                if (random.nextInt(60) == 0) text();
                if (random.nextInt(12) == 0) look();
                if (random.nextInt(3) == 0) question(); else action();
            }
            look();
        }
    }

    public static void main(String[] args) {
        long calls = 0;
        for (int seed = 1; seed <= RUNS && wrong < 5; seed++) {
            Run run = new Run(seed);
            run.go();
            calls += run.calls;
        }
        System.out.println(calls + " calls compared with the model, " + wrong + " wrong");
        if (wrong != 0) System.exit(1);
    }
}

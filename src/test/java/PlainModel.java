import java.util.ArrayDeque;
import java.util.ArrayList;
import java.util.Deque;
import java.util.List;

/**
 * The document once more, written apart from CorkPermits and without its limits: states are copied
 * as wholes, letters are objects, an order of a text is the call itself. ModelTest compares the two.
 */
final class PlainModel {
    private static final class Letter {
        final int sort;
        final Pair pair;
        final int house;
        final int kind;
        final int number;
        final int arrival;

        Letter(int sort, Pair pair, int house, int kind, int number, int arrival) {
            this.sort = sort;
            this.pair = pair;
            this.house = house;
            this.kind = kind;
            this.number = number;
            this.arrival = arrival;
        }
    }

    /** What is known of a house and a kind. */
    private static final class Pair {
        int lent;
        int accounted;
        int told;
        int made;
        int waiting;

        Pair copy() {
            Pair p = new Pair();
            p.lent = lent;
            p.accounted = accounted;
            p.told = told;
            p.made = made;
            p.waiting = waiting;
            return p;
        }

        int out() {
            return lent - accounted;
        }
    }

    private static final class State {
        int time = 0;
        int sent = 0;
        int lostLetters = 0;
        int[] settings = {2, 0, 0};
        int[][] kinds = {{4, 0, 0, 0, 0}, {4, 0, 0, 0, 0}, {4, 0, 0, 0, 0}};
        List<Pair[]> houses = new ArrayList<>();
        List<Letter> letters = new ArrayList<>();

        State copy() {
            State s = new State();
            s.time = time;
            s.sent = sent;
            s.lostLetters = lostLetters;
            s.settings = settings.clone();
            for (int k = 0; k < 3; k++) {
                s.kinds[k] = kinds[k].clone();
            }
            for (Pair[] h : houses) {
                s.houses.add(new Pair[] {h[0].copy(), h[1].copy(), h[2].copy()});
            }
            for (Letter l : letters) {
                Pair p = s.houses.get(l.house)[l.kind];
                s.letters.add(new Letter(l.sort, p, l.house, l.kind, l.number, l.arrival));
            }
            return s;
        }

        boolean room() {
            return letters.size() < 40;
        }

        void post(int sort, int house, int kind, int number) {
            sent++;
            if (settings[1] != 0 && sent % settings[1] == 0) {
                lostLetters++;
                return;
            }
            Pair p = houses.get(house)[kind];
            letters.add(new Letter(sort, p, house, kind, number, time + settings[0]));
        }

        int out(int kind) {
            int sum = 0;
            for (Pair[] h : houses) {
                sum += h[kind].out();
            }
            return sum;
        }

        int free(int kind) {
            return kinds[kind][0] - kinds[kind][1] - out(kind);
        }

        void lend(int house, int kind) {
            Pair p = houses.get(house)[kind];
            p.lent++;
            post(0, house, kind, p.lent);
        }

        int reason(Pair p) {
            if (p.waiting == 0) {
                return 1;
            }
            if (p.told == p.made) {
                return p.out() == 0 ? 2 : 3;
            }
            return room() ? 0 : 4;
        }

        void tick() {
            time++;
            List<Letter> due = new ArrayList<>();
            for (Letter l : letters) {
                if (l.arrival == time) {
                    due.add(l);
                }
            }
            letters.removeAll(due);
            for (Letter l : due) {
                arrive(l);
            }
            for (int h = 0; h < houses.size(); h++) {
                for (int k = 0; k < 3; k++) {
                    Pair p = houses.get(h)[k];
                    if (reason(p) == 0) {
                        p.waiting--;
                        p.made++;
                        post(1, h, k, p.made);
                    }
                }
            }
            if (settings[2] == 0) {
                return;
            }
            for (int h = 0; h < houses.size(); h++) {
                for (int k = 0; k < 3; k++) {
                    if (houses.get(h)[k].out() < settings[2] && free(k) >= 1 && room()) {
                        lend(h, k);
                    }
                }
            }
        }

        void arrive(Letter l) {
            Pair p = l.pair;
            int[] kind = kinds[l.kind];
            if (l.sort == 0 || l.sort == 2) {
                if (l.number > p.told) {
                    p.told = l.number;
                }
                if (l.sort == 2) {
                    post(3, l.house, l.kind, p.made);
                }
                return;
            }
            if (l.number <= p.accounted) {
                return;
            }
            if (l.sort == 1) {
                kind[4] += l.number - p.accounted - 1;
                kind[3]++;
                kind[1]++;
            } else {
                kind[4] += l.number - p.accounted;
            }
            p.accounted = l.number;
        }
    }

    private State s = new State();
    private final State[] slots = new State[2];
    private final Deque<State> saved = new ArrayDeque<>();
    private String buffer = "";

    private void save() {
        saved.addLast(s.copy());
        if (saved.size() > 6) {
            saved.removeFirst();
        }
    }

    private static void index(boolean good) {
        if (!good) {
            throw new IndexOutOfBoundsException();
        }
    }

    private static void argument(boolean good) {
        if (!good) {
            throw new IllegalArgumentException();
        }
    }

    private static void state(boolean good) {
        if (!good) {
            throw new IllegalStateException();
        }
    }

    private static void kindIs(int kind) {
        index(kind >= 0 && kind <= 2);
    }

    private Pair pair(int house, int kind) {
        index(house >= 0 && house < s.houses.size() && kind >= 0 && kind <= 2);
        return s.houses.get(house)[kind];
    }

    int house() {
        state(s.houses.size() < 4);
        save();
        s.houses.add(new Pair[] {new Pair(), new Pair(), new Pair()});
        return s.houses.size() - 1;
    }

    int bottles(int kind, int many) {
        kindIs(kind);
        argument(many >= 0 && many <= 20);
        state(many >= s.kinds[kind][1] + s.out(kind));
        save();
        int had = s.kinds[kind][0];
        s.kinds[kind][0] = many;
        return had;
    }

    int lend(int house, int kind) {
        Pair p = pair(house, kind);
        state(s.free(kind) > 0 && s.room());
        save();
        s.lend(house, kind);
        return p.out();
    }

    int ask(int house, int kind) {
        Pair p = pair(house, kind);
        state(s.room());
        save();
        s.post(2, house, kind, p.lent);
        return s.letters.size();
    }

    int want(int house, int kind) {
        Pair p = pair(house, kind);
        state(p.waiting < 9);
        save();
        return ++p.waiting;
    }

    int drink(int kind) {
        kindIs(kind);
        state(s.kinds[kind][1] > 0);
        save();
        s.kinds[kind][2]++;
        return --s.kinds[kind][1];
    }

    int pass(int ticks) {
        argument(ticks >= 1 && ticks <= 60);
        state(s.time + ticks <= 9999);
        save();
        int made = made();
        for (int i = 0; i < ticks; i++) {
            s.tick();
        }
        return made() - made;
    }

    int set(int setting, int value) {
        index(setting >= 0 && setting <= 2);
        argument(value >= (setting == 0 ? 1 : 0) && value <= (setting == 1 ? 99 : 9));
        save();
        int old = s.settings[setting];
        s.settings[setting] = value;
        return old;
    }

    int append(int code) {
        argument(code >= 33 && code <= 126);
        state(buffer.length() < 60);
        buffer += (char) code;
        return buffer.length();
    }

    int clearBuffer() {
        int had = buffer.length();
        buffer = "";
        return had;
    }

    /** A text begins a day if orders stand in it, and then the beginning of one. */
    int firstError() {
        for (int n = 1; n <= buffer.length(); n++) {
            if (!buffer.substring(0, n)
                    .matches("([lqw][0-3][0-2]|d[0-2]|t[1-9])*([lqw][0-3]?|d|t)?")) {
                return n - 1;
            }
        }
        return buffer.length();
    }

    int run() {
        argument(buffer.matches("([lqw][0-3][0-2]|d[0-2]|t[1-9])+"));
        State before = s.copy();
        Deque<State> savedBefore = new ArrayDeque<>(saved);
        int done = 0;
        try {
            for (int at = 0; at < buffer.length(); ) {
                char c = buffer.charAt(at);
                int a = buffer.charAt(at + 1) - '0';
                if (c == 't') {
                    pass(a);
                    at += 2;
                } else if (c == 'd') {
                    drink(a);
                    at += 2;
                } else {
                    int b = buffer.charAt(at + 2) - '0';
                    if (c == 'l') {
                        lend(a, b);
                    } else if (c == 'q') {
                        ask(a, b);
                    } else {
                        want(a, b);
                    }
                    at += 3;
                }
                done++;
            }
        } catch (IndexOutOfBoundsException | IllegalStateException e) {
            // the order is not done, and those behind it neither
        }
        saved.clear();
        saved.addAll(savedBefore);
        saved.addLast(before);
        if (saved.size() > 6) {
            saved.removeFirst();
        }
        buffer = "";
        return done;
    }

    int keep(int slot) {
        argument(slot == 0 || slot == 1);
        slots[slot] = s.copy();
        return s.time;
    }

    int goBack(int slot) {
        argument(slot == 0 || slot == 1);
        state(slots[slot] != null);
        save();
        s = slots[slot].copy();
        return s.time;
    }

    int undo() {
        state(!saved.isEmpty());
        s = saved.removeLast();
        return saved.size();
    }

    int kind(int kind, int what) {
        kindIs(kind);
        argument(what >= 0 && what <= 6);
        int[] k = s.kinds[kind];
        int[] all = {k[0], k[1], s.out(kind), s.free(kind), k[2], k[3], k[4]};
        return all[what];
    }

    int houseOf(int house, int kind, int what) {
        Pair p = pair(house, kind);
        argument(what >= 0 && what <= 9);
        int[] all = {p.lent, p.accounted, p.out(), p.told, p.made, p.told - p.made, p.waiting,
            s.reason(p), p.lent - p.told, p.made - p.accounted};
        return all[what];
    }

    int letter(int rank, int what) {
        argument(rank >= 0 && what >= 0 && what <= 4);
        if (rank >= s.letters.size()) {
            return -1;
        }
        Letter l = s.letters.get(rank);
        int[] all = {l.sort, l.house, l.kind, l.number, l.arrival};
        return all[what];
    }

    private int made() {
        return sum(s, 4);
    }

    private static int sum(State s, int what) {
        int sum = 0;
        for (Pair[] h : s.houses) {
            for (Pair p : h) {
                int[] all = {p.lent, p.accounted, p.out(), p.told, p.made, p.waiting};
                sum += all[what];
            }
        }
        return sum;
    }

    private static int sumOfKinds(State s, int what) {
        return s.kinds[0][what] + s.kinds[1][what] + s.kinds[2][what];
    }

    int count(int what) {
        argument(what >= 0 && what <= 11);
        int[] all = {s.time, s.houses.size(), s.letters.size(), s.sent, s.lostLetters, sum(s, 4),
            sumOfKinds(s, 3), sumOfKinds(s, 4), sum(s, 5), sumOfKinds(s, 1), sum(s, 2), saved.size()};
        return all[what];
    }

    int setting(int setting) {
        index(setting >= 0 && setting <= 2);
        return s.settings[setting];
    }

    int ifPassed(int ticks, int what) {
        argument(ticks >= 1 && ticks <= 60 && what >= 0 && what <= 3);
        State then = s.copy();
        for (int i = 0; i < ticks; i++) {
            then.tick();
        }
        int[] all = {sum(then, 4) - sum(s, 4), sumOfKinds(then, 3) - sumOfKinds(s, 3), sum(then, 5),
            then.lostLetters - s.lostLetters};
        return all[what];
    }

    int stillIn() {
        State then = s.copy();
        int ticks = 0;
        while (!then.letters.isEmpty()) {
            if (ticks == 200) {
                return -1;
            }
            then.tick();
            ticks++;
        }
        return ticks;
    }

    /** Tells the cellar, as an answer would. */
    int hidden() {
        State then = s.copy();
        for (int h = 0; h < then.houses.size(); h++) {
            for (int k = 0; k < 3; k++) {
                Pair p = then.houses.get(h)[k];
                then.arrive(new Letter(3, p, h, k, p.made, then.time));
            }
        }
        return sumOfKinds(then, 4) - sumOfKinds(s, 4);
    }

    int neediest() {
        int best = -1;
        int most = 0;
        for (int h = 0; h < s.houses.size(); h++) {
            int need = 0;
            for (Pair p : s.houses.get(h)) {
                for (int i = p.told - p.made; i < p.waiting; i++) {
                    need++;
                }
            }
            if (need > most) {
                most = need;
                best = h;
            }
        }
        return best;
    }

    double arrivedShare() {
        int came = sumOfKinds(s, 3);
        int all = came + sumOfKinds(s, 4);
        return all == 0 ? 1.0 : (double) came / all;
    }

    long digest() {
        List<Long> values = new ArrayList<>();
        for (int w = 0; w < 12; w++) {
            values.add((long) count(w));
        }
        for (int w = 0; w < 3; w++) {
            values.add((long) setting(w));
        }
        for (int k = 0; k < 3; k++) {
            for (int w = 0; w < 7; w++) {
                values.add((long) kind(k, w));
            }
        }
        for (int h = 0; h < s.houses.size(); h++) {
            for (int k = 0; k < 3; k++) {
                for (int w = 0; w < 10; w++) {
                    values.add((long) houseOf(h, k, w));
                }
            }
        }
        for (int r = 0; r < 10; r++) {
            for (int w = 0; w < 5; w++) {
                values.add((long) letter(r, w));
            }
        }
        for (int w = 0; w < 4; w++) {
            values.add((long) ifPassed(12, w));
        }
        values.add((long) stillIn());
        values.add((long) hidden());
        values.add((long) neediest());
        values.add(Double.doubleToLongBits(arrivedShare()));
        values.add(slots[0] == null ? 0L : 1L);
        values.add(slots[1] == null ? 0L : 1L);
        values.add((long) buffer.length());
        for (char c : buffer.toCharArray()) {
            values.add((long) c);
        }
        long hash = 3253;
        for (long v : values) {
            hash = 31 * hash + v;
        }
        return hash;
    }
}

import java.util.ArrayList;
import java.util.List;
import java.util.function.LongSupplier;
import java.util.function.Supplier;
import java.util.function.ToLongFunction;

/** Cellars that the tests begin with, and what they ask of them again and again. */
abstract class Scenes {
    static final Class<IndexOutOfBoundsException> INDEX = IndexOutOfBoundsException.class;
    static final Class<IllegalArgumentException> ARGUMENT = IllegalArgumentException.class;
    static final Class<IllegalStateException> STATE = IllegalStateException.class;
    static final int LEAST = Integer.MIN_VALUE;
    static final int GREATEST = Integer.MAX_VALUE;

    static void type(CorkPermits x, String text) {
        for (char c : text.toCharArray()) {
            x.append(c);
        }
    }

    static void counts(String when, CorkPermits x, int... due) {
        for (int what = 0; what < due.length; what++) {
            Check.same(when + " count(" + what + ")", due[what], x.count(what));
        }
    }

    static void kinds(String when, CorkPermits x, int kind, int... due) {
        for (int what = 0; what < due.length; what++) {
            Check.same(when + " kind(" + kind + ", " + what + ")", due[what], x.kind(kind, what));
        }
    }

    static void numbers(String when, CorkPermits x, int house, int kind, int... due) {
        for (int what = 0; what < due.length; what++) {
            Check.same(when + " houseOf(" + house + ", " + kind + ", " + what + ")", due[what],
                    x.houseOf(house, kind, what));
        }
    }

    static void letters(String when, CorkPermits x, int rank, int... due) {
        for (int what = 0; what < due.length; what++) {
            Check.same(when + " letter(" + rank + ", " + what + ")", due[what], x.letter(rank, what));
        }
    }

    static void wantMany(CorkPermits x, int house, int kind, int many) {
        for (int i = 0; i < many; i++) {
            x.want(house, kind);
        }
    }

    static void lendMany(CorkPermits x, int house, int kind, int many) {
        for (int i = 0; i < many; i++) {
            x.lend(house, kind);
        }
    }

    static CorkPermits withHouses(int many) {
        CorkPermits x = new CorkPermits();
        for (int i = 0; i < many; i++) {
            x.house();
        }
        return x;
    }

    static void fillWithLetters(CorkPermits x) {
        while (x.count(2) < 40) {
            x.ask(0, 0);
        }
    }

    /**
     * Nearly the longest that letters go on: 40 pours of houses 0 to 2 keep the room from a pour of
     * house 3, which frees bottles when it arrives; then house 0 gets cork after cork by itself.
     */
    static CorkPermits longUnderWay() {
        CorkPermits x = withHouses(4);
        for (int kind = 0; kind < 3; kind++) {
            x.bottles(kind, 20);
        }
        x.set(0, 1);
        lendMany(x, 3, 0, 20);
        x.pass(1);
        x.set(1, 1);
        for (int many : new int[] {9, 9, 1}) {
            wantMany(x, 3, 0, many);
            x.pass(9);
        }
        x.set(1, 0);
        for (int kind = 1; kind < 3; kind++) {
            for (int house = 0; house < 3; house++) {
                lendMany(x, house, kind, house < 2 ? 7 : 6);
            }
            x.pass(1);
        }
        x.set(0, 9);
        for (int letter = 0; letter < 40; letter++) {
            if (letter > 0 && letter % 6 == 0) {
                x.pass(1);
            }
            x.ask(0, 0);
        }
        for (int house = 0; house < 3; house++) {
            wantMany(x, house, 1, house < 2 ? 7 : 6);
            wantMany(x, house, 2, house < 2 ? 7 : 6);
        }
        x.want(3, 0);
        wantMany(x, 0, 0, 9);
        x.set(2, 1);
        return x;
    }

    static long hashOf(long start, long... values) {
        long hash = start;
        for (long value : values) {
            hash = 31 * hash + value;
        }
        return hash;
    }

    static void askMany(CorkPermits x, int house, int kind, int many) {
        for (int i = 0; i < many; i++) {
            x.ask(house, kind);
        }
    }

    static void passTo(CorkPermits x, int time) {
        int at = x.count(0);
        while (at < time) {
            int ticks = Math.min(60, time - at);
            x.pass(ticks);
            at += ticks;
        }
    }

    /** So many pours of a house are made, and arrive: letters have to take two ticks, none is lost. */
    static void fillBottles(CorkPermits x, int house, int kind, int many) {
        for (int left = many; left > 0; left -= 9) {
            int now = Math.min(9, left);
            lendMany(x, house, kind, now);
            wantMany(x, house, kind, now);
            x.pass(now + 3);
        }
    }

    /** A house with corks of kind 0 at hand, at the time 2; no letter is under way. */
    static CorkPermits withCorks(int many) {
        CorkPermits x = withHouses(1);
        x.bottles(0, 20);
        lendMany(x, 0, 0, many);
        x.pass(2);
        return x;
    }

    /** A question more is under way, which tells nothing and is answered with nothing. */
    static CorkPermits withLetters(int houses, int letters) {
        CorkPermits x = withHouses(houses);
        x.set(0, 9);
        askMany(x, 0, 2, letters);
        return x;
    }

    /** Both slots, a text, saved states, letters under way and lost, pours and corks of all sorts. */
    static CorkPermits rich() {
        CorkPermits x = withHouses(2);
        x.bottles(0, 9);
        lendMany(x, 0, 0, 4);
        wantMany(x, 0, 0, 3);
        x.keep(0);
        x.set(1, 3);
        x.pass(5);
        x.keep(1);
        x.ask(1, 2);
        x.lend(1, 2);
        x.want(1, 2);
        x.pass(1);
        type(x, "t1l0");
        return x;
    }

    /** All that can be seen of an object, and of what it went through: it is used up by this. */
    static List<Long> whole(CorkPermits x) {
        List<Long> values = new ArrayList<>();
        values.add(x.digest());
        int letters = x.count(2);
        for (int rank = 10; rank < letters; rank++) {
            for (int what = 0; what < 5; what++) {
                values.add((long) x.letter(rank, what));
            }
        }
        for (int saved = x.count(11); saved > 0; saved--) {
            values.add((long) x.undo());
            values.add(x.digest());
        }
        for (int slot = 0; slot < 2; slot++) {
            try {
                values.add((long) x.goBack(slot));
            } catch (IllegalStateException e) {
                values.add(-1L);
            }
            values.add(x.digest());
        }
        return values;
    }

    /** All that a snapshot or a saved state holds, as far as looks tell of it. */
    static List<Long> state(CorkPermits x) {
        List<Long> values = new ArrayList<>();
        for (int what = 0; what <= 10; what++) {
            values.add((long) x.count(what));
        }
        for (int kind = 0; kind < 3; kind++) {
            values.add((long) x.setting(kind));
            for (int what = 0; what <= 6; what++) {
                values.add((long) x.kind(kind, what));
            }
        }
        for (int place = 0; place < x.count(1) * 3; place++) {
            for (int what = 0; what <= 9; what++) {
                values.add((long) x.houseOf(place / 3, place % 3, what));
            }
        }
        for (int value = 0; value < x.count(2) * 5; value++) {
            values.add((long) x.letter(value / 5, value % 5));
        }
        return values;
    }

    /** The call throws on a cellar made so, which is then as one on which it was not called. */
    static void refused(String what, Class<? extends RuntimeException> due,
            Supplier<CorkPermits> scene, ToLongFunction<CorkPermits> call) {
        CorkPermits x = scene.get();
        LongSupplier onIt = () -> call.applyAsLong(x);
        Check.refuses(what, due, onIt);
        Check.same(what + " changes nothing", whole(scene.get()), whole(x));
    }

    /** The call is taken on a cellar made so; the answer is that which is due. */
    static void taken(String what, long due, Supplier<CorkPermits> scene,
            ToLongFunction<CorkPermits> call) {
        Check.same(what, due, call.applyAsLong(scene.get()));
    }

    /** The hash of an object, from its other answers, and from what they do not tell. */
    static long hashOfLooks(CorkPermits x, int firstSlot, int secondSlot, String text) {
        long hash = 3253;
        for (int what = 0; what <= 11; what++) {
            hash = hashOf(hash, x.count(what));
        }
        hash = hashOf(hash, x.setting(0), x.setting(1), x.setting(2));
        for (int kind = 0; kind < 3; kind++) {
            for (int what = 0; what <= 6; what++) {
                hash = hashOf(hash, x.kind(kind, what));
            }
        }
        for (int place = 0; place < x.count(1) * 3; place++) {
            for (int what = 0; what <= 9; what++) {
                hash = hashOf(hash, x.houseOf(place / 3, place % 3, what));
            }
        }
        for (int value = 0; value < 50; value++) {
            hash = hashOf(hash, x.letter(value / 5, value % 5));
        }
        for (int what = 0; what <= 3; what++) {
            hash = hashOf(hash, x.ifPassed(12, what));
        }
        hash = hashOf(hash, x.stillIn(), x.hidden(), x.neediest());
        hash = hashOf(hash, Double.doubleToLongBits(x.arrivedShare()), firstSlot, secondSlot);
        hash = hashOf(hash, text.length());
        for (char c : text.toCharArray()) {
            hash = hashOf(hash, c);
        }
        return hash;
    }
}

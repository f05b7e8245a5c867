import java.util.Map;
import java.util.TreeMap;
import java.util.function.LongSupplier;

/** Runs of calls, the same on CorkPermits and on PlainModel; the answers have to be the same. */
public final class ModelTest {
    private static final int RUNS = 3000;
    /** And the digest at the end: an object promises nothing beyond 512 calls. */
    private static final int CALLS = 511;
    private static final String ORDERS = "lqwdt";
    /** In these runs the time comes to its limit. */
    private static final int LONG = 8;
    /** In these runs there are often 40 letters under way. */
    private static final int CROWDED = 11;

    private static long seed;
    private static int calls;
    private static final Map<String, Integer> SEEN = new TreeMap<>();

    private ModelTest() {
    }

    /** A number from 0 to below many; the same ones in every run of the test. */
    private static int any(int many) {
        seed = seed * 6364136223846793005L + 1442695040888963407L;
        return (int) ((seed >>> 33) % many);
    }

    /** Mostly from low to high, at times just outside. */
    private static int near(int low, int high) {
        int odd = any(60);
        if (odd == 0) {
            return low - 1 - any(3);
        }
        if (odd == 1) {
            return high + 1 + any(3);
        }
        if (odd == 2) {
            return any(2) == 0 ? Integer.MIN_VALUE : Integer.MAX_VALUE;
        }
        return low + any(high - low + 1);
    }

    private static String answer(LongSupplier call) {
        try {
            return Long.toString(call.getAsLong());
        } catch (RuntimeException e) {
            return e.getClass().getName();
        }
    }

    private static void both(String call, LongSupplier own, LongSupplier model) {
        if (calls >= CALLS) {
            return;
        }
        calls++;
        String due = answer(model);
        String got = answer(own);
        Check.count();
        String name = call.substring(call.indexOf(' ') + 1, call.indexOf('('));
        SEEN.merge(name + (due.startsWith("java") ? " throws " + due : " answers"), 1, Integer::sum);
        if (!due.equals(got)) {
            Check.fail("run " + call + " answered " + got + ", due is " + due);
        }
    }

    private static void write(String text, CorkPermits x, PlainModel m, int run) {
        for (char c : text.toCharArray()) {
            both(run + " append('" + c + "')", () -> x.append(c), () -> m.append(c));
        }
    }

    private static String someDay() {
        StringBuilder day = new StringBuilder();
        for (int orders = any(any(3) == 0 ? 30 : 5); orders >= 0; orders--) {
            char c = ORDERS.charAt(any(5));
            day.append(c);
            if (c == 't') {
                day.append(1 + any(9));
            } else if (c == 'd') {
                day.append(any(3));
            } else {
                day.append(any(4)).append(any(3));
            }
        }
        if (any(4) == 0) {
            day.setCharAt(any(day.length()), (char) (33 + any(94)));
        }
        return day.toString();
    }

    private static int choice(int style) {
        if (style == CROWDED && any(3) > 0) {
            return 2 + any(7);
        }
        if (style == LONG && any(4) > 0) {
            return 10;
        }
        return any(16);
    }

    private static void change(CorkPermits x, PlainModel m, int run, int style) {
        int h = near(0, style % 4);
        int k = near(0, 2);
        switch (choice(style)) {
            case 0:
                both(run + " house()", x::house, m::house);
                break;
            case 1:
                int many = near(0, 20);
                both(run + " bottles(" + k + "," + many + ")", () -> x.bottles(k, many),
                        () -> m.bottles(k, many));
                break;
            case 2:
            case 3:
            case 4:
                both(run + " lend(" + h + "," + k + ")", () -> x.lend(h, k), () -> m.lend(h, k));
                break;
            case 5:
                both(run + " ask(" + h + "," + k + ")", () -> x.ask(h, k), () -> m.ask(h, k));
                break;
            case 6:
            case 7:
            case 8:
                both(run + " want(" + h + "," + k + ")", () -> x.want(h, k), () -> m.want(h, k));
                break;
            case 9:
                both(run + " drink(" + k + ")", () -> x.drink(k), () -> m.drink(k));
                break;
            case 10:
            case 11:
                int ticks = style == LONG ? near(50, 60) : near(1, any(4) == 0 ? 60 : 3);
                both(run + " pass(" + ticks + ")", () -> x.pass(ticks), () -> m.pass(ticks));
                break;
            case 12:
                int setting = near(0, 2);
                int value = setting == 0 ? near(1, 9) : setting == 1
                        ? (any(3) == 0 ? near(0, 99) : any(7)) : near(0, 9);
                both(run + " set(" + setting + "," + value + ")", () -> x.set(setting, value),
                        () -> m.set(setting, value));
                break;
            case 13:
                write(someDay(), x, m, run);
                both(run + " firstError()", x::firstError, m::firstError);
                both(run + " run()", x::run, m::run);
                if (any(2) == 0) {
                    both(run + " clearBuffer()", x::clearBuffer, m::clearBuffer);
                }
                break;
            default:
                if (style != LONG || any(20) == 0) {
                    textOrSlot(x, m, run);
                }
                break;
        }
    }

    private static void textOrSlot(CorkPermits x, PlainModel m, int run) {
        int slot = near(0, 1);
        switch (any(6)) {
            case 0:
                int code = near(33, 126);
                both(run + " append(" + code + ")", () -> x.append(code), () -> m.append(code));
                break;
            case 1:
                both(run + " clearBuffer()", x::clearBuffer, m::clearBuffer);
                break;
            case 2:
                both(run + " firstError()", x::firstError, m::firstError);
                break;
            case 3:
                both(run + " keep(" + slot + ")", () -> x.keep(slot), () -> m.keep(slot));
                break;
            case 4:
                both(run + " goBack(" + slot + ")", () -> x.goBack(slot), () -> m.goBack(slot));
                break;
            default:
                both(run + " undo()", x::undo, m::undo);
                break;
        }
    }

    private static void look(CorkPermits x, PlainModel m, int run) {
        int h = near(0, 3);
        int k = near(0, 2);
        int w = near(0, 11);
        int ticks = near(1, 60);
        int rank = near(0, 41);
        both(run + " kind(" + k + "," + w + ")", () -> x.kind(k, w), () -> m.kind(k, w));
        both(run + " houseOf(" + h + "," + k + "," + w + ")", () -> x.houseOf(h, k, w),
                () -> m.houseOf(h, k, w));
        both(run + " letter(" + rank + "," + w + ")", () -> x.letter(rank, w),
                () -> m.letter(rank, w));
        both(run + " count(" + w + ")", () -> x.count(w), () -> m.count(w));
        both(run + " setting(" + w + ")", () -> x.setting(w), () -> m.setting(w));
        both(run + " ifPassed(" + ticks + "," + w % 5 + ")", () -> x.ifPassed(ticks, w % 5),
                () -> m.ifPassed(ticks, w % 5));
        both(run + " hidden()", x::hidden, m::hidden);
        both(run + " neediest()", x::neediest, m::neediest);
        both(run + " arrivedShare()", () -> Double.doubleToLongBits(x.arrivedShare()),
                () -> Double.doubleToLongBits(m.arrivedShare()));
    }

    private static void oneRun(int run) {
        CorkPermits x = new CorkPermits();
        PlainModel m = new PlainModel();
        int style = run % 12;
        calls = 0;
        for (int h = 0; h < style % 5; h++) {
            both(run + " house()", x::house, m::house);
        }
        if (style % 3 == 0) {
            for (int k = 0; k < 3; k++) {
                int kind = k;
                both(run + " bottles(" + k + ",20)", () -> x.bottles(kind, 20),
                        () -> m.bottles(kind, 20));
            }
        }
        if (style % 4 == 1) {
            both(run + " set(2,9)", () -> x.set(2, 9), () -> m.set(2, 9));
        }
        if (style == CROWDED) {
            both(run + " house()", x::house, m::house);
            both(run + " house()", x::house, m::house);
            both(run + " house()", x::house, m::house);
            for (int k = 0; k < 3; k++) {
                int kind = k;
                both(run + " bottles(" + k + ",20)", () -> x.bottles(kind, 20),
                        () -> m.bottles(kind, 20));
            }
            both(run + " set(0,9)", () -> x.set(0, 9), () -> m.set(0, 9));
        }
        while (calls < CALLS && !Check.failed()) {
            change(x, m, run, style);
            if (any(20) == 0) {
                look(x, m, run);
                both(run + " stillIn()", x::stillIn, m::stillIn);
            }
            if (any(style == LONG ? 9 : 2) == 0) {
                both(run + " digest()", x::digest, m::digest);
            }
        }
        calls = 0;
        both(run + " digest() at its end", x::digest, m::digest);
    }

    public static void main(String[] args) {
        for (int run = 0; run < RUNS && !Check.failed(); run++) {
            seed = 77777L * run + 1;
            oneRun(run);
        }
        if (args.length > 0) {
            SEEN.forEach((name, times) -> System.out.println(times + " x " + name));
        }
        Check.end();
    }
}

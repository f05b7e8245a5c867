import java.util.function.Supplier;
import java.util.function.ToLongFunction;

/** "Exceptions", over all calls: which one is thrown if several apply, and that nothing is changed. */
public final class BoundaryRefusalsTest extends Scenes {
    private BoundaryRefusalsTest() {
    }

    /** Both slots, six saved states, a full buffer, 40 letters, 9 that wait, no bottle free or full. */
    private static CorkPermits atItsLimits() {
        CorkPermits x = rich();
        x.house();
        x.house();
        type(x, "0".repeat(56));
        wantMany(x, 0, 1, 9);
        x.drink(0);
        x.drink(0);
        x.set(1, 0);
        x.set(0, 9);
        for (int kind = 0; kind < 3; kind++) {
            x.bottles(kind, x.kind(kind, 2));
        }
        fillWithLetters(x);
        return x;
    }

    private static CorkPermits atTheLastTime() {
        CorkPermits x = rich();
        passTo(x, 9999);
        return x;
    }

    private static void theFirstNamed(String what, Class<? extends RuntimeException> due,
            Supplier<CorkPermits> scene, ToLongFunction<CorkPermits> call) {
        Check.about("Terms, Exceptions", "If several exceptions apply, the one that is named first in"
                + " the throws clause is thrown.");
        refused(what, due, scene, call);
    }

    private static void severalOfPlaces() {
        Supplier<CorkPermits> limits = BoundaryRefusalsTest::atItsLimits;
        theFirstNamed("bottles: kind, many", INDEX, limits, c -> c.bottles(3, 21));
        theFirstNamed("bottles: kind, many", INDEX, limits, c -> c.bottles(-1, -1));
        theFirstNamed("bottles: many, state", ARGUMENT, limits, c -> c.bottles(0, -1));
        theFirstNamed("lend: house, state", INDEX, limits, c -> c.lend(4, 0));
        theFirstNamed("lend: kind, state", INDEX, limits, c -> c.lend(0, 3));
        theFirstNamed("lend: both, state", INDEX, limits, c -> c.lend(-1, -1));
        theFirstNamed("ask: house, state", INDEX, limits, c -> c.ask(4, 0));
        theFirstNamed("ask: kind, state", INDEX, limits, c -> c.ask(3, 3));
        theFirstNamed("want: house, state", INDEX, limits, c -> c.want(-1, 1));
        theFirstNamed("want: kind, state", INDEX, limits, c -> c.want(0, -1));
        theFirstNamed("drink: kind, state", INDEX, limits, c -> c.drink(3));
        theFirstNamed("set: setting, value", INDEX, limits, c -> c.set(3, -1));
        theFirstNamed("set: setting, value", INDEX, limits, c -> c.set(-1, 100));
        theFirstNamed("kind: kind, what", INDEX, limits, c -> c.kind(3, 7));
        theFirstNamed("kind: kind, what", INDEX, limits, c -> c.kind(-1, -1));
        theFirstNamed("houseOf: house, what", INDEX, limits, c -> c.houseOf(4, 0, 10));
        theFirstNamed("houseOf: kind, what", INDEX, limits, c -> c.houseOf(0, 3, -1));
    }

    private static void severalOfArguments() {
        Supplier<CorkPermits> limits = BoundaryRefusalsTest::atItsLimits;
        Supplier<CorkPermits> last = BoundaryRefusalsTest::atTheLastTime;
        theFirstNamed("pass: ticks, state", ARGUMENT, last, c -> c.pass(61));
        theFirstNamed("pass: ticks, state", ARGUMENT, last, c -> c.pass(GREATEST));
        theFirstNamed("append: code, state", ARGUMENT, limits, c -> c.append(32));
        theFirstNamed("append: code, state", ARGUMENT, limits, c -> c.append(127));
        theFirstNamed("goBack: slot, state", ARGUMENT, CorkPermits::new, c -> c.goBack(2));
        theFirstNamed("goBack: slot, state", ARGUMENT, CorkPermits::new, c -> c.goBack(-1));
    }

    private static void eachAtItsLimit() {
        Check.about("Terms, Exceptions", "A call that throws an exception changes nothing.");
        Supplier<CorkPermits> limits = BoundaryRefusalsTest::atItsLimits;
        refused("house", STATE, limits, CorkPermits::house);
        refused("bottles", STATE, limits, c -> c.bottles(0, c.kind(0, 2) - 1));
        refused("lend", STATE, limits, c -> c.lend(0, 0));
        refused("ask", STATE, limits, c -> c.ask(0, 0));
        refused("want", STATE, limits, c -> c.want(0, 1));
        for (int kind = 0; kind < 3; kind++) {
            int full = kind;
            refused("drink " + kind, STATE, limits, c -> c.drink(full));
        }
        refused("pass", STATE, BoundaryRefusalsTest::atTheLastTime, c -> c.pass(1));
        refused("append", STATE, limits, c -> c.append('t'));
        refused("run", ARGUMENT, limits, CorkPermits::run);
        refused("keep", ARGUMENT, limits, c -> c.keep(2));
        refused("goBack", STATE, CorkPermits::new, c -> c.goBack(1));
        refused("undo", STATE, CorkPermits::new, CorkPermits::undo);
        refused("letter", ARGUMENT, limits, c -> c.letter(-1, 5));
        refused("count", ARGUMENT, limits, c -> c.count(12));
        refused("setting", INDEX, limits, c -> c.setting(3));
        refused("ifPassed", ARGUMENT, limits, c -> c.ifPassed(61, 4));
    }

    private static void theLimitsThemselves() {
        Check.about("Terms, Exceptions", "A call that throws an exception changes nothing.");
        CorkPermits x = atItsLimits();
        counts("at its limits", x, 6, 4);
        Check.same("letters", 40, x.count(2));
        Check.same("full", 0, x.count(9));
        Check.same("saved", 6, x.count(11));
        Check.same("waiting", 9, x.houseOf(0, 1, 6));
        for (int kind = 0; kind < 3; kind++) {
            Check.same("free", 0, x.kind(kind, 3));
        }
        Check.same("the buffer", 60, x.clearBuffer());
    }

    public static void main(String[] args) {
        severalOfPlaces();
        severalOfArguments();
        eachAtItsLimit();
        theLimitsThemselves();
        Check.end();
    }
}

import java.util.List;
import java.util.function.ToLongFunction;

/** The boundary cases of promises 10 to 16: the buffer, days as texts, snapshots and undo. */
public final class BoundaryTextTest extends Scenes {
    private static final int[] NO_SLOTS = {-1, 2, LEAST, GREATEST};

    private BoundaryTextTest() {
    }

    private static CorkPermits withText(String text) {
        CorkPermits x = rich();
        x.clearBuffer();
        type(x, text);
        return x;
    }

    // ---- 10: append

    private static void codes() {
        Check.about("Promise 10", "Throws `IllegalArgumentException` if code is not 33 to 126");
        CorkPermits x = new CorkPermits();
        Check.same("the least", 1, x.append(33));
        Check.same("the greatest", 2, x.append(126));
        for (int code : new int[] {32, 127, 0, -1, 33 + 256, LEAST, GREATEST}) {
            refused("code " + code, ARGUMENT, Scenes::rich, c -> c.append(code));
            refused("code " + code + ", a full buffer", ARGUMENT,
                    () -> withText("t1".repeat(30)), c -> c.append(code));
        }
    }

    private static void fullBuffer() {
        Check.about("Promise 10", "Throws `IllegalStateException` if the buffer has 60 characters");
        CorkPermits x = new CorkPermits();
        for (int length = 1; length <= 60; length++) {
            Check.same("length", length, x.append(33 + length));
        }
        Check.refuses("a 61st", STATE, () -> x.append(33));
        refused("a 61st", STATE, () -> withText("t1".repeat(30)), c -> c.append('t'));
        Check.same("60 are cleared", 60, x.clearBuffer());
        Check.same("room again", 1, x.append(33));
        CorkPermits y = new CorkPermits();
        type(y, "t1".repeat(30));
        Check.same("60 are run", 30, y.run());
        Check.same("room again", 1, y.append('t'));
    }

    // ---- 11: clearBuffer

    private static void clearedBuffer() {
        Check.about("Promise 11", "Returns the length that it had.");
        CorkPermits x = new CorkPermits();
        Check.same("empty", 0, x.clearBuffer());
        x.append('t');
        Check.same("one", 1, x.clearBuffer());
        Check.same("empty again", 0, x.clearBuffer());
        Check.same("no error", 0, x.firstError());
    }

    // ---- 12: firstError

    private static void error(String text, int due) {
        CorkPermits x = new CorkPermits();
        type(x, text);
        Check.same("firstError of " + text, due, x.firstError());
    }

    private static void firstCharacters() {
        Check.about("Terms, Input text", "\"l\", \"q\", \"w\" or \"d\"");
        for (int code = 33; code <= 126; code++) {
            String sign = String.valueOf((char) code);
            int due = "lqwdt".contains(sign) ? 1 : 0;
            error(sign, due);
            error("t1" + sign, 2 + due);
        }
    }

    private static void housesAndKinds() {
        Check.about("Terms, Input text", "each with two digits, of a house, 0 to 3, and of a kind, 0 to"
                + " 2 (\"d\" with the digit of a kind alone)");
        for (int code = 33; code <= 126; code++) {
            String sign = String.valueOf((char) code);
            for (String order : new String[] {"l", "q", "w"}) {
                error(order + sign, code >= '0' && code <= '3' ? 2 : 1);
                error(order + "3" + sign, code >= '0' && code <= '2' ? 3 : 2);
            }
            error("d" + sign, code >= '0' && code <= '2' ? 2 : 1);
        }
        error("l000", 3);
        error("d00", 2);
    }

    private static void ticks() {
        Check.about("Terms, Input text", "or \"t\" and a digit, 1 to 9 (so many ticks go by).");
        for (int code = 33; code <= 126; code++) {
            error("t" + (char) code, code >= '1' && code <= '9' ? 2 : 1);
        }
        error("t10", 2);
    }

    private static void errorsByPlace() {
        Check.about("Promise 12", "Returns the index of the first character that is a syntax error; the"
                + " length of the buffer if there is none.");
        error("", 0);
        error("!", 0);
        error("t1!!", 2);
        error("!t1", 0);
        String most = "l00".repeat(19);
        error(most + "w32", 60);
        error(most + "w33", 59);
        error(most + "w42", 58);
        error(most + "x32", 57);
        error("x" + most + "w3", 0);
        CorkPermits x = withText("t1!");
        x.firstError();
        Check.same("the text stays", 3, x.clearBuffer());
    }

    private static void beginningsOfDays() {
        Check.about("Terms, Input text", "a character is a syntax error if no day as a text, of any"
                + " length, begins with the characters before it and this character.");
        error("l", 1);
        error("l0", 2);
        error("d", 1);
        error("t", 1);
        String most = "q32".repeat(19);
        error(most + "t9w", 60);
        error(most + "q3", 59);
        error("d0" + most + "w", 60);
        error("t".repeat(60), 1);
    }

    // ---- 13: run

    private static void noDay(String text) {
        refused("run of " + text, ARGUMENT, () -> withText(text), CorkPermits::run);
    }

    private static void noDays() {
        Check.about("Promise 13", "Throws `IllegalArgumentException` if the buffer does not tell a day"
                + " as a text");
        for (String text : new String[] {"", "l", "l0", "q", "q3", "w", "w0", "d", "t", "t1w", "t1w0",
            "t0", "l40", "l03", "d3", "x", "t1!", "!t1", "w000", "L00"}) {
            noDay(text);
        }
        noDay("l00".repeat(19) + "t9w");
        noDay("l00".repeat(19) + "w0");
        noDay("t1".repeat(29) + "t0");
    }

    private static void shortestAndLongestDays() {
        Check.about("Terms, Input text", "A day as a text is one or more orders, one behind the other");
        CorkPermits x = withHouses(1);
        type(x, "t1");
        Check.same("one order", 1, x.run());
        Check.same("one tick", 1, x.count(0));
        type(x, "t9".repeat(30));
        Check.same("30 orders", 30, x.run());
        Check.same("270 ticks", 271, x.count(0));
        type(x, "q02".repeat(20));
        Check.same("20 orders", 20, x.run());
        Check.same("20 letters", 20, x.count(2));
        Check.same("three are saved, and the house", 4, x.count(11));
    }

    /** The first order that is not done ends the day; so many are done before it. */
    private static void stops(String text, int due, CorkPermits x) {
        type(x, text);
        Check.same("run of " + text, due, x.run());
        Check.same("the text is cleared", 0, x.clearBuffer());
    }

    private static void daysThatStopAtALetter() {
        Check.about("Promise 13", "up to the first one whose method would throw an exception");
        CorkPermits x = withHouses(1);
        stops("l00l10l00", 1, x);
        stops("q00q30q00", 1, x);
        stops("w02w10w02", 1, x);
        counts("two letters", x, 0, 1, 2, 2, 0, 0, 0, 0, 1);
        CorkPermits y = withHouses(1);
        y.bottles(0, 2);
        stops("l00l00l00l01", 2, y);
        Check.same("no cork of kind 1", 0, y.kind(1, 2));
        CorkPermits z = withLetters(1, 38);
        stops("l00q00l00w00", 2, z);
        counts("40 letters", z, 0, 1, 40, 40, 0, 0, 0, 0, 0);
        z.undo();
        stops("l00l00q00w00", 2, z);
        counts("40 letters", z, 0, 1, 40, 40, 0, 0, 0, 0, 0);
        CorkPermits houseless = new CorkPermits();
        stops("w00t1", 0, houseless);
        Check.same("no tick", 0, houseless.count(0));
    }

    private static void daysThatStopAtAPourOrATick() {
        Check.about("Promise 13", "up to the first one whose method would throw an exception");
        CorkPermits x = withHouses(1);
        wantMany(x, 0, 0, 8);
        stops("w00w00w01", 1, x);
        Check.same("nine wait", 9, x.count(8));
        CorkPermits y = withHouses(1);
        fillBottles(y, 0, 2, 2);
        stops("d2d2d2t1", 2, y);
        stops("d2t1", 0, y);
        stops("d0t1", 0, y);
        counts("no tick", y, 5, 1);
        Check.same("both were drunk", 2, y.kind(2, 4));
        CorkPermits z = withHouses(1);
        passTo(z, 9990);
        stops("t9t1w00", 1, z);
        counts("the last time", z, 9999, 1, 0, 0, 0, 0, 0, 0, 0);
        stops("w00t1", 1, z);
        z.undo();
        z.undo();
        z.pass(1);
        stops("t9w00", 0, z);
        counts("no tick", z, 9991, 1, 0, 0, 0, 0, 0, 0, 0);
        stops("t8w00", 2, z);
        counts("the last time", z, 9999, 1, 0, 0, 0, 0, 0, 0, 1);
    }

    private static void ordersOfTheFirstAndLastPlaces() {
        Check.about("Promise 13", "Does the orders in the buffer as lend(), ask(), want(), drink() and"
                + " pass() do, one after the other");
        CorkPermits x = withHouses(4);
        type(x, "l30l02q12q20w32w01w01t1");
        Check.same("all", 8, x.run());
        letters("house 3, kind 0", x, 0, 0, 3, 0, 1, 2);
        letters("house 0, kind 2", x, 1, 0, 0, 2, 1, 2);
        letters("house 1, kind 2", x, 2, 2, 1, 2, 0, 2);
        letters("house 2, kind 0", x, 3, 2, 2, 0, 0, 2);
        Check.same("house 3, kind 2", 1, x.houseOf(3, 2, 6));
        Check.same("house 0, kind 1", 2, x.houseOf(0, 1, 6));
        counts("and no more", x, 1, 4, 4, 4, 0, 0, 0, 0, 3, 0, 2);
        fillBottles(x, 3, 0, 1);
        fillBottles(x, 3, 2, 2);
        type(x, "d2d0d2");
        Check.same("all", 3, x.run());
        Check.same("of kind 0", 1, x.kind(0, 4));
        Check.same("of kind 2", 2, x.kind(2, 4));
    }

    private static void daysAreUndoneAsOne() {
        Check.about("Promise 13", "Undoable, as one call, also if none is done.");
        CorkPermits x = withHouses(1);
        type(x, "w00l00t9d0w00");
        Check.same("all", 5, x.run());
        Check.same("one saved", 2, x.count(11));
        type(x, "d0");
        Check.same("none", 0, x.run());
        Check.same("saved too", 3, x.count(11));
        x.undo();
        counts("as after the first", x, 9, 1, 0, 2, 0, 1, 1, 0, 1, 0, 0, 2);
        x.undo();
        counts("as before it", x, 0, 1, 0, 0, 0, 0, 0, 0, 0, 0, 0, 1);
        CorkPermits y = new CorkPermits();
        for (int time = 1; time <= 6; time++) {
            y.pass(1);
        }
        type(y, "t1t1t1t1t1t1t1t1");
        Check.same("eight", 8, y.run());
        Check.same("six saved", 6, y.count(11));
        Check.same("one undone", 5, y.undo());
        Check.same("as before the run", 6, y.count(0));
        Check.same("the text is not brought back", 0, y.clearBuffer());
    }

    // ---- 14: keep, 15: goBack

    private static void noSlots() {
        Check.about("Promise 14", "Throws `IllegalArgumentException` if slot is out of range");
        taken("the first", 6, Scenes::rich, c -> c.keep(0));
        taken("the last", 6, Scenes::rich, c -> c.keep(1));
        for (int slot : NO_SLOTS) {
            refused("keep " + slot, ARGUMENT, Scenes::rich, c -> c.keep(slot));
            refused("keep " + slot, ARGUMENT, CorkPermits::new, c -> c.keep(slot));
        }
        Check.about("Promise 15", "Throws `IllegalArgumentException` if slot is out of range");
        taken("the first", 0, Scenes::rich, c -> c.goBack(0));
        taken("the last", 5, Scenes::rich, c -> c.goBack(1));
        for (int slot : NO_SLOTS) {
            refused("goBack " + slot, ARGUMENT, Scenes::rich, c -> c.goBack(slot));
            refused("goBack " + slot + ", no snapshot", ARGUMENT, CorkPermits::new,
                    c -> c.goBack(slot));
        }
    }

    private static CorkPermits withOneSlot(int slot) {
        CorkPermits x = withHouses(1);
        x.lend(0, 0);
        x.keep(slot);
        x.pass(3);
        return x;
    }

    private static void emptySlots() {
        Check.about("Promise 15", "Throws `IllegalStateException` if there is no snapshot in it");
        for (int slot = 0; slot < 2; slot++) {
            int kept = slot;
            int empty = 1 - slot;
            refused("no snapshot", STATE, CorkPermits::new, c -> c.goBack(kept));
            refused("the other slot", STATE, () -> withOneSlot(kept), c -> c.goBack(empty));
            taken("the slot", 0, () -> withOneSlot(kept), c -> c.goBack(kept));
        }
    }

    private static void snapshotsInPlaceOfOthers() {
        Check.about("Promise 14", "Takes a snapshot, in place of the one in the slot.");
        CorkPermits x = new CorkPermits();
        Check.same("keep", 0, x.keep(0));
        x.pass(3);
        Check.same("keep in the other", 3, x.keep(1));
        x.pass(4);
        Check.same("keep in its place", 7, x.keep(0));
        Check.same("nothing is saved", 2, x.count(11));
        x.pass(1);
        Check.same("the later", 7, x.goBack(0));
        Check.same("the other", 3, x.goBack(1));
        x.pass(9);
        Check.same("the other stays", 3, x.goBack(1));
        Check.same("the later stays", 7, x.goBack(0));
    }

    private static void changeMuch(CorkPermits x) {
        x.house();
        x.bottles(1, 11);
        x.lend(0, 1);
        x.ask(1, 0);
        x.want(0, 1);
        x.drink(0);
        x.set(0, 4);
        x.set(1, 0);
        x.set(2, 3);
        x.pass(8);
    }

    private static void allOfASnapshot() {
        Check.about("Terms, Snapshots, undo",
                "There are two slots; a snapshot is all but the buffer, the slots and the saved states.");
        CorkPermits x = rich();
        List<Long> before = state(x);
        x.keep(1);
        changeMuch(x);
        x.append('x');
        Check.same("saved", 6, x.count(11));
        Check.same("the time then", 6, x.goBack(1));
        Check.same("all", before, state(x));
        Check.same("the buffer stays", 4, x.firstError());
        Check.same("six saved", 6, x.count(11));
        Check.same("undo of going back", 5, x.undo());
        Check.same("as before", 14, x.count(0));
        x.keep(0);
        x.goBack(1);
        Check.same("the other slot stays", 14, x.goBack(0));
    }

    private static void goingBackToTheSame() {
        Check.about("Terms, Snapshots, undo", "Each method that is marked \"undoable\" and does not"
                + " throw an exception saves the state from before it (also if it changes nothing)");
        CorkPermits x = new CorkPermits();
        x.keep(0);
        Check.same("goBack", 0, x.goBack(0));
        Check.same("saved", 1, x.count(11));
        x.set(0, 2);
        Check.same("set", 2, x.count(11));
        x.bottles(0, 4);
        Check.same("bottles", 3, x.count(11));
        type(x, "d0");
        x.run();
        Check.same("run", 4, x.count(11));
        Check.same("all are dropped one by one", 3, x.undo());
        Check.same("all are dropped one by one", 2, x.undo());
        Check.same("all are dropped one by one", 1, x.undo());
        Check.same("all are dropped one by one", 0, x.undo());
        Check.refuses("none is left", STATE, x::undo);
    }

    private static void notUndoable() {
        Check.about("Terms, Snapshots, undo", "Each method that is marked \"undoable\" and does not"
                + " throw an exception saves the state from before it (also if it changes nothing)");
        CorkPermits x = withHouses(1);
        x.append('t');
        x.firstError();
        x.clearBuffer();
        x.keep(0);
        state(x);
        x.ifPassed(60, 3);
        x.stillIn();
        x.hidden();
        x.neediest();
        x.arrivedShare();
        x.digest();
        Check.refuses("a wrong house", INDEX, () -> x.lend(1, 0));
        Check.refuses("no day", ARGUMENT, x::run);
        Check.same("the house alone", 1, x.count(11));
        Check.same("undo is not undoable", 0, x.undo());
        Check.same("none", 0, x.count(11));
    }

    // ---- 16: undo

    private static CorkPermits withoutSaved() {
        CorkPermits x = rich();
        for (int saved = x.count(11); saved > 0; saved--) {
            x.undo();
        }
        return x;
    }

    private static void nothingSaved() {
        Check.about("Promise 16", "Throws `IllegalStateException` if there is none");
        refused("new", STATE, CorkPermits::new, CorkPermits::undo);
        refused("all are undone", STATE, BoundaryTextTest::withoutSaved, CorkPermits::undo);
        CorkPermits x = new CorkPermits();
        x.house();
        Check.same("the only one", 0, x.undo());
        Check.same("no house", 0, x.count(1));
        Check.refuses("no other", STATE, x::undo);
        x.house();
        Check.same("one again", 1, x.count(11));
    }

    private static void sixSaved() {
        Check.about("Terms, Snapshots, undo",
                "At most 6 states are saved; the oldest one is dropped first.");
        CorkPermits x = new CorkPermits();
        for (int time = 1; time <= 6; time++) {
            x.pass(1);
            Check.same("saved", time, x.count(11));
        }
        x.pass(1);
        Check.same("the first is dropped", 6, x.count(11));
        for (int left = 5; left >= 0; left--) {
            Check.same("left", left, x.undo());
            Check.same("the time", left + 1, x.count(0));
        }
        Check.refuses("no seventh", STATE, x::undo);
        CorkPermits y = new CorkPermits();
        for (int time = 1; time <= 6; time++) {
            y.pass(1);
        }
        for (int left = 5; left >= 0; left--) {
            Check.same("left", left, y.undo());
            Check.same("the time", left, y.count(0));
        }
    }

    private static void savedAfterUndo() {
        Check.about("Promise 16", "Restores the latest saved state, and drops it.");
        CorkPermits x = new CorkPermits();
        for (int time = 1; time <= 20; time++) {
            x.pass(1);
        }
        Check.same("left", 5, x.undo());
        Check.same("left", 4, x.undo());
        x.pass(30);
        x.pass(30);
        x.pass(30);
        Check.same("six again", 6, x.count(11));
        int[] times = {78, 48, 18, 17, 16, 15};
        for (int time : times) {
            x.undo();
            Check.same("the time", time, x.count(0));
        }
        Check.refuses("no other", STATE, x::undo);
    }

    private static void undone(String what, ToLongFunction<CorkPermits> call) {
        CorkPermits x = rich();
        x.undo();
        x.undo();
        List<Long> before = state(x);
        int saved = x.count(11);
        call.applyAsLong(x);
        Check.same(what + " is saved", saved + 1, x.count(11));
        Check.same(what + " is undone", saved, x.undo());
        Check.same(what + " is undone as a whole", before, state(x));
    }

    private static void eachIsUndone() {
        Check.about("Terms, Snapshots, undo", "all, also what is counted so far, but the buffer, the"
                + " slots and the saved states.");
        undone("house", CorkPermits::house);
        undone("bottles", c -> c.bottles(2, 20));
        undone("lend", c -> c.lend(1, 0));
        undone("ask", c -> c.ask(0, 0));
        undone("want", c -> c.want(0, 2));
        undone("drink", c -> c.drink(0));
        undone("pass", c -> c.pass(60));
        undone("set", c -> c.set(1, 1));
        undone("goBack", c -> c.goBack(0));
        undone("run", c -> {
            c.clearBuffer();
            type(c, "d0l12q00w11t9w12t9");
            return c.run();
        });
        CorkPermits x = withHouses(1);
        x.pass(2);
        type(x, "t1");
        x.keep(1);
        x.undo();
        Check.same("the buffer stays", 2, x.clearBuffer());
        Check.same("the slot stays", 2, x.goBack(1));
    }

    public static void main(String[] args) {
        codes();
        fullBuffer();
        clearedBuffer();
        firstCharacters();
        housesAndKinds();
        ticks();
        errorsByPlace();
        beginningsOfDays();
        noDays();
        shortestAndLongestDays();
        daysThatStopAtALetter();
        daysThatStopAtAPourOrATick();
        ordersOfTheFirstAndLastPlaces();
        daysAreUndoneAsOne();
        noSlots();
        emptySlots();
        snapshotsInPlaceOfOthers();
        allOfASnapshot();
        goingBackToTheSame();
        notUndoable();
        nothingSaved();
        sixSaved();
        savedAfterUndo();
        eachIsUndone();
        Check.end();
    }
}

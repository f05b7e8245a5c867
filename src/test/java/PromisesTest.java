import java.util.function.LongSupplier;

/** Each promise by itself, with answers worked out by hand from the document. */
public final class PromisesTest extends Scenes {
    private static final int[] WRONG_KINDS = {-1, 3, Integer.MIN_VALUE, Integer.MAX_VALUE};

    private PromisesTest() {
    }

    /** A call that throws changes nothing: the digest, which has the whole state in it, stays. */
    private static void refuses(CorkPermits x, String what, Class<? extends RuntimeException> due,
            LongSupplier call) {
        long before = x.digest();
        Check.refuses(what, due, call);
        Check.same(what + " changes nothing", before, x.digest());
    }

    private static void newObject() {
        CorkPermits x = new CorkPermits();
        counts("new", x, 0, 0, 0, 0, 0, 0, 0, 0, 0, 0, 0, 0);
        for (int kind = 0; kind < 3; kind++) {
            kinds("new", x, kind, 4, 0, 0, 4, 0, 0, 0);
        }
        Check.same("new setting(0)", 2, x.setting(0));
        Check.same("new setting(1)", 0, x.setting(1));
        Check.same("new setting(2)", 0, x.setting(2));
        Check.same("new firstError", 0, x.firstError());
        Check.same("new clearBuffer", 0, x.clearBuffer());
        refuses(x, "new goBack(0)", STATE, () -> x.goBack(0));
        refuses(x, "new goBack(1)", STATE, () -> x.goBack(1));
    }

    private static void houses() {
        CorkPermits x = new CorkPermits();
        for (int number = 0; number < 4; number++) {
            Check.same("house", number, x.house());
            Check.same("houses", number + 1, x.count(1));
        }
        refuses(x, "a fifth house", STATE, x::house);
        Check.same("undo", 3, x.undo());
        Check.same("houses after undo", 3, x.count(1));
        Check.same("house again", 3, x.house());
    }

    private static void bottles() {
        CorkPermits x = withHouses(1);
        Check.same("bottles", 4, x.bottles(1, 20));
        Check.same("bottles", 20, x.bottles(1, 3));
        Check.same("bottles of the others", 4, x.kind(0, 0));
        for (int kind : WRONG_KINDS) {
            refuses(x, "bottles of kind " + kind, INDEX, () -> x.bottles(kind, 4));
            refuses(x, "bottles of kind " + kind, INDEX, () -> x.bottles(kind, 21));
        }
        refuses(x, "bottles 21", ARGUMENT, () -> x.bottles(0, 21));
        refuses(x, "bottles -1", ARGUMENT, () -> x.bottles(0, -1));
        lendMany(x, 0, 1, 2);
        x.want(0, 1);
        x.pass(4);
        kinds("one full, one out", x, 1, 3, 1, 1, 1, 0, 1, 0);
        refuses(x, "bottles 1", STATE, () -> x.bottles(1, 1));
        refuses(x, "bottles -1 of those", ARGUMENT, () -> x.bottles(1, -1));
        Check.same("bottles 2", 3, x.bottles(1, 2));
        Check.same("none free", 0, x.kind(1, 3));
        Check.same("bottles 0 of another", 4, x.bottles(0, 0));
        Check.same("undo", 5, x.undo());
        Check.same("bottles after undo", 4, x.kind(0, 0));
    }

    private static void lend() {
        CorkPermits x = withHouses(2);
        Check.same("lend", 1, x.lend(0, 2));
        Check.same("lend", 2, x.lend(0, 2));
        Check.same("lend to the other", 1, x.lend(1, 2));
        Check.same("lend", 3, x.lend(0, 2));
        refuses(x, "no bottle free", STATE, () -> x.lend(1, 2));
        for (int kind : WRONG_KINDS) {
            refuses(x, "lend of kind " + kind, INDEX, () -> x.lend(0, kind));
            refuses(x, "lend to house " + kind, INDEX, () -> x.lend(kind, 0));
        }
        refuses(x, "lend to house 2", INDEX, () -> x.lend(2, 2));
        letters("lent", x, 0, 0, 0, 2, 1, 2);
        letters("lent", x, 2, 0, 1, 2, 1, 2);
        letters("lent", x, 3, 0, 0, 2, 3, 2);
        numbers("lent", x, 0, 2, 3, 0, 3, 0, 0, 0, 0, 1, 3, 0);
        fillWithLetters(x);
        refuses(x, "40 letters", STATE, () -> x.lend(0, 0));
    }

    private static void ask() {
        CorkPermits x = withHouses(1);
        lendMany(x, 0, 1, 3);
        Check.same("ask", 4, x.ask(0, 1));
        letters("asked", x, 3, 2, 0, 1, 3, 2);
        for (int kind : WRONG_KINDS) {
            refuses(x, "ask of kind " + kind, INDEX, () -> x.ask(0, kind));
            refuses(x, "ask house " + kind, INDEX, () -> x.ask(kind, 0));
        }
        x.pass(2);
        letters("answered", x, 0, 3, 0, 1, 0, 4);
        x.set(0, 9);
        fillWithLetters(x);
        refuses(x, "40 letters", STATE, () -> x.ask(0, 0));
        x.pass(2);
        Check.same("39 and one", 40, x.ask(0, 2));
    }

    /** With 40 questions arriving at once each has room for its answer, but no pour has. */
    private static void questionsInACrowd() {
        CorkPermits x = withHouses(1);
        x.lend(0, 0);
        x.pass(2);
        x.want(0, 0);
        fillWithLetters(x);
        Check.same("no room", 4, x.houseOf(0, 0, 7));
        Check.same("no pour", 0, x.ifPassed(3, 0));
        Check.same("a pour later", 1, x.ifPassed(4, 0));
        Check.same("no pour", 0, x.pass(2));
        Check.same("answers", 40, x.count(2));
        letters("answers", x, 39, 3, 0, 0, 0, 6);
        Check.same("a pour", 1, x.pass(2));
        Check.same("still in", 2, x.stillIn());
    }

    private static void want() {
        CorkPermits x = withHouses(1);
        for (int many = 1; many <= 9; many++) {
            Check.same("want", many, x.want(0, 2));
        }
        refuses(x, "a tenth", STATE, () -> x.want(0, 2));
        for (int kind : WRONG_KINDS) {
            refuses(x, "want of kind " + kind, INDEX, () -> x.want(0, kind));
            refuses(x, "want of house " + kind, INDEX, () -> x.want(kind, 0));
        }
        Check.same("want another", 1, x.want(0, 1));
        Check.same("waiting", 10, x.count(8));
    }

    private static void drink() {
        CorkPermits x = withHouses(1);
        refuses(x, "none full", STATE, () -> x.drink(0));
        for (int kind : WRONG_KINDS) {
            refuses(x, "drink of kind " + kind, INDEX, () -> x.drink(kind));
        }
        lendMany(x, 0, 0, 2);
        wantMany(x, 0, 0, 2);
        x.pass(5);
        kinds("two full", x, 0, 4, 2, 0, 2, 0, 2, 0);
        Check.same("drink", 1, x.drink(0));
        Check.same("drink", 0, x.drink(0));
        kinds("drunk", x, 0, 4, 0, 0, 4, 2, 2, 0);
        refuses(x, "none full any more", STATE, () -> x.drink(0));
        x.undo();
        kinds("undone", x, 0, 4, 1, 0, 3, 1, 2, 0);
    }

    private static void pass() {
        CorkPermits x = withHouses(2);
        lendMany(x, 0, 0, 2);
        lendMany(x, 1, 1, 1);
        wantMany(x, 0, 0, 3);
        wantMany(x, 1, 1, 1);
        Check.same("corks under way", 0, x.pass(1));
        Check.same("one pour a tick of each", 2, x.pass(1));
        letters("first", x, 0, 1, 0, 0, 1, 4);
        letters("second", x, 1, 1, 1, 1, 1, 4);
        Check.same("the second cork", 1, x.pass(1));
        numbers("poured", x, 0, 0, 2, 0, 2, 2, 2, 0, 1, 3, 0, 2);
        Check.same("no cork", 0, x.pass(60));
        numbers("arrived", x, 0, 0, 2, 2, 0, 2, 2, 0, 1, 2, 0, 0);
        refuses(x, "pass(0)", ARGUMENT, () -> x.pass(0));
        refuses(x, "pass(61)", ARGUMENT, () -> x.pass(61));
        refuses(x, "pass(-1)", ARGUMENT, () -> x.pass(-1));
        refuses(x, "pass(least)", ARGUMENT, () -> x.pass(Integer.MIN_VALUE));
        refuses(x, "pass(greatest)", ARGUMENT, () -> x.pass(Integer.MAX_VALUE));
        Check.same("undo of all 60", 5, x.undo());
        Check.same("time", 3, x.count(0));
    }

    private static void limitOfTheTime() {
        CorkPermits x = withHouses(1);
        for (int i = 0; i < 166; i++) {
            x.pass(60);
        }
        Check.same("time", 9960, x.count(0));
        refuses(x, "pass(40)", STATE, () -> x.pass(40));
        refuses(x, "pass(61) then", ARGUMENT, () -> x.pass(61));
        x.pass(39);
        Check.same("time", 9999, x.count(0));
        x.undo();
        x.pass(38);
        Check.same("time", 9998, x.count(0));
        x.lend(0, 0);
        x.want(0, 0);
        type(x, "t2");
        Check.same("run beyond the limit", 0, x.run());
        type(x, "t1w00t1w00");
        Check.same("run to the limit", 2, x.run());
        Check.same("time", 9999, x.count(0));
        refuses(x, "pass(1)", STATE, () -> x.pass(1));
        Check.same("ifPassed beyond", 1, x.ifPassed(1, 0));
        Check.same("stillIn beyond", 3, x.stillIn());
    }

    private static void set() {
        CorkPermits x = withHouses(1);
        int[] least = {1, 0, 0};
        int[] greatest = {9, 99, 9};
        int[] first = {2, 0, 0};
        for (int i = 0; i < 3; i++) {
            int setting = i;
            Check.same("set", first[i], x.set(i, least[i]));
            Check.same("set", least[i], x.set(i, greatest[i]));
            Check.same("setting", greatest[i], x.setting(i));
            refuses(x, "too little", ARGUMENT, () -> x.set(setting, least[setting] - 1));
            refuses(x, "too much", ARGUMENT, () -> x.set(setting, greatest[setting] + 1));
        }
        for (int setting : WRONG_KINDS) {
            refuses(x, "set " + setting, INDEX, () -> x.set(setting, 100));
        }
        CorkPermits y = withHouses(1);
        y.set(0, 9);
        y.lend(0, 0);
        y.set(0, 1);
        y.lend(0, 0);
        letters("slow", y, 0, 0, 0, 0, 1, 9);
        letters("fast", y, 1, 0, 0, 0, 2, 1);
        y.set(0, 5);
        y.ask(0, 2);
        y.pass(1);
        letters("still slow", y, 0, 0, 0, 0, 1, 9);
        letters("behind it", y, 1, 2, 0, 2, 0, 5);
        letters("no more", y, 2, -1, -1, -1, -1, -1);
        numbers("the later told it all", y, 0, 0, 2, 0, 2, 2, 0, 2, 0, 1, 0, 0);
        y.pass(8);
        Check.same("the earlier tells nothing", 2, y.houseOf(0, 0, 3));
    }

    private static void lostLetters() {
        CorkPermits x = withHouses(1);
        x.set(1, 2);
        lendMany(x, 0, 0, 3);
        counts("the second is lost", x, 0, 1, 2, 3, 1);
        letters("the third", x, 1, 0, 0, 0, 3, 2);
        x.set(1, 0);
        x.pass(2);
        Check.same("all told", 3, x.houseOf(0, 0, 3));
        x.set(1, 1);
        wantMany(x, 0, 0, 2);
        Check.same("pours are lost", 2, x.pass(2));
        Check.same("known lost", 0, x.count(7));
        Check.same("hidden", 2, x.hidden());
        x.set(1, 0);
        x.want(0, 0);
        Check.same("a pour arrives", 1, x.pass(3));
        counts("all known", x, 7, 1, 0, 6, 3, 3, 1, 2, 0, 1, 0, 6);
        kinds("all known", x, 0, 4, 1, 0, 3, 0, 1, 2);
        x.undo();
        kinds("not known any more", x, 0, 4, 0, 3, 1, 0, 0, 0);
        x.pass(3);
        Check.same("share", Double.doubleToLongBits(1.0 / 3.0),
                Double.doubleToLongBits(x.arrivedShare()));
    }

    private static void answers() {
        CorkPermits x = withHouses(1);
        x.lend(0, 1);
        x.pass(2);
        x.set(1, 1);
        x.want(0, 1);
        x.pass(1);
        x.set(1, 0);
        numbers("a lost pour", x, 0, 1, 1, 0, 1, 1, 1, 0, 0, 1, 0, 1);
        x.want(0, 1);
        Check.same("no cork but one out", 3, x.houseOf(0, 1, 7));
        x.ask(0, 1);
        x.pass(4);
        numbers("recounted", x, 0, 1, 1, 1, 0, 1, 1, 0, 1, 2, 0, 0);
        kinds("recounted", x, 1, 4, 0, 0, 4, 0, 0, 1);
        x.set(1, 1);
        x.lend(0, 1);
        x.set(1, 0);
        x.ask(0, 1);
        x.pass(1);
        Check.same("not told yet", 1, x.houseOf(0, 1, 3));
        Check.same("a pour by the question", 1, x.pass(1));
        letters("answered before it pours", x, 0, 3, 0, 1, 1, 11);
        letters("the pour", x, 1, 1, 0, 1, 2, 11);
        x.undo();
        kinds("still known", x, 1, 4, 0, 1, 3, 0, 0, 1);
        Check.same("share 0", 0L, Double.doubleToLongBits(x.arrivedShare()));
    }

    /** A pour that an answer has overtaken is lost for the cellar. */
    private static void overtakenPour() {
        CorkPermits x = withHouses(1);
        x.lend(0, 0);
        x.pass(2);
        x.want(0, 0);
        x.set(0, 9);
        x.pass(1);
        x.set(0, 1);
        x.ask(0, 0);
        x.pass(2);
        kinds("answer first", x, 0, 4, 0, 0, 4, 0, 0, 1);
        x.pass(7);
        kinds("pour behind", x, 0, 4, 0, 0, 4, 0, 0, 1);
        counts("pour behind", x, 12, 1, 0, 4, 0, 1, 0, 1, 0, 0, 0);
    }

    private static void corksByThemselves() {
        CorkPermits x = withHouses(2);
        x.set(2, 3);
        x.bottles(0, 3);
        x.bottles(1, 0);
        x.pass(1);
        Check.same("house 0 first", 1, x.houseOf(0, 0, 2));
        Check.same("house 1 then", 1, x.houseOf(1, 0, 2));
        Check.same("no bottle", 0, x.houseOf(0, 1, 2));
        letters("house 0", x, 0, 0, 0, 0, 1, 3);
        letters("house 0, kind 2", x, 1, 0, 0, 2, 1, 3);
        letters("house 1", x, 2, 0, 1, 0, 1, 3);
        x.pass(1);
        Check.same("the last bottle", 2, x.houseOf(0, 0, 2));
        Check.same("none for house 1", 1, x.houseOf(1, 0, 2));
        x.bottles(2, 20);
        x.pass(9);
        Check.same("3 out at most", 3, x.houseOf(0, 2, 2));
        Check.same("3 out at most", 3, x.houseOf(1, 2, 2));
        CorkPermits y = withHouses(1);
        y.set(0, 9);
        fillWithLetters(y);
        y.set(2, 9);
        y.pass(1);
        Check.same("no room", 0, y.count(10));
    }

    private static void buffer() {
        CorkPermits x = new CorkPermits();
        refuses(x, "append(32)", ARGUMENT, () -> x.append(32));
        refuses(x, "append(127)", ARGUMENT, () -> x.append(127));
        refuses(x, "append(least)", ARGUMENT, () -> x.append(Integer.MIN_VALUE));
        Check.same("append(33)", 1, x.append(33));
        Check.same("append(126)", 2, x.append(126));
        for (int length = 3; length <= 60; length++) {
            Check.same("append", length, x.append('t'));
        }
        refuses(x, "a full buffer", STATE, () -> x.append('t'));
        refuses(x, "a full buffer and a wrong code", ARGUMENT, () -> x.append(32));
        Check.same("nothing is saved", 0, x.count(11));
        Check.same("clearBuffer", 60, x.clearBuffer());
        Check.same("clearBuffer", 0, x.clearBuffer());
    }

    private static void error(String text, int due, boolean day) {
        CorkPermits x = new CorkPermits();
        type(x, text);
        Check.same("firstError of " + text, due, x.firstError());
        if (!day) {
            refuses(x, "run of " + text, ARGUMENT, x::run);
        } else {
            x.run();
            Check.same("run clears " + text, 0, x.clearBuffer());
        }
    }

    private static void errors() {
        error("", 0, false);
        error("l", 1, false);
        error("l3", 2, false);
        error("l32", 3, true);
        error("l4", 1, false);
        error("q33", 2, false);
        error("w30w", 4, false);
        error("d2", 2, true);
        error("d3", 1, false);
        error("t9", 2, true);
        error("t0", 1, false);
        error("t1d0l00q32w11", 13, true);
        error("t11", 2, false);
        error("l/0", 1, false);
        error("l0/", 2, false);
        error("d/", 1, false);
        error("t:", 1, false);
        error("L00", 0, false);
        error("t1xt1", 2, false);
        error("w", 1, false);
        error("q", 1, false);
        error("ww", 1, false);
    }

    private static void run() {
        CorkPermits x = withHouses(1);
        type(x, "l00w00q01t4d0");
        Check.same("run", 5, x.run());
        counts("run", x, 4, 1, 0, 4, 0, 1, 1, 0, 0, 0, 0, 2);
        Check.same("drunk", 1, x.kind(0, 4));
        Check.same("undo of all", 1, x.undo());
        counts("undone", x, 0, 1, 0, 0, 0, 0, 0, 0, 0, 0, 0, 1);
        type(x, "w00d0w00");
        Check.same("run to the drink", 1, x.run());
        Check.same("one waits", 1, x.count(8));
        type(x, "l10");
        Check.same("no such house", 0, x.run());
        Check.same("saved though none is done", 3, x.count(11));
        type(x, "l00l00l00l00l00");
        Check.same("four bottles", 4, x.run());
        type(x, "w01w01w01w01w01w01w01w01w01w01");
        Check.same("nine wait", 9, x.run());
        Check.same("no text is left", 0, x.clearBuffer());
        CorkPermits y = withHouses(1);
        y.set(0, 9);
        fillWithLetters(y);
        type(y, "q00");
        Check.same("40 letters", 0, y.run());
        type(y, "w00t9l00");
        Check.same("40 answers", 2, y.run());
    }

    private static void snapshots() {
        CorkPermits x = withHouses(1);
        x.pass(7);
        x.lend(0, 0);
        x.set(2, 5);
        Check.same("keep", 7, x.keep(1));
        Check.same("nothing is saved", 4, x.count(11));
        type(x, "t1");
        x.pass(3);
        x.set(2, 0);
        x.house();
        Check.same("goBack", 7, x.goBack(1));
        counts("back", x, 7, 1, 1, 1, 0, 0, 0, 0, 0, 0, 1, 6);
        Check.same("the setting too", 5, x.setting(2));
        Check.same("the buffer stays", 2, x.firstError());
        x.lend(0, 0);
        Check.same("the snapshot stays", 7, x.goBack(1));
        Check.same("as it was", 1, x.houseOf(0, 0, 0));
        Check.same("undo of goBack", 5, x.undo());
        Check.same("before it", 2, x.houseOf(0, 0, 0));
        refuses(x, "the other slot", STATE, () -> x.goBack(0));
        for (int slot : new int[] {-1, 2, Integer.MIN_VALUE, Integer.MAX_VALUE}) {
            refuses(x, "keep " + slot, ARGUMENT, () -> x.keep(slot));
            refuses(x, "goBack " + slot, ARGUMENT, () -> x.goBack(slot));
        }
        x.pass(1);
        Check.same("keep over it", 8, x.keep(1));
        x.pass(5);
        Check.same("the later one", 8, x.goBack(1));
    }

    private static void undo() {
        CorkPermits x = new CorkPermits();
        refuses(x, "nothing saved", STATE, x::undo);
        x.set(0, 2);
        Check.same("saved though nothing changed", 1, x.count(11));
        for (int time = 1; time <= 8; time++) {
            x.pass(1);
        }
        Check.same("six at most", 6, x.count(11));
        x.keep(0);
        for (int left = 5; left >= 0; left--) {
            Check.same("undo", left, x.undo());
            Check.same("time", left + 2, x.count(0));
        }
        refuses(x, "nothing saved any more", STATE, x::undo);
        Check.same("the slot stays", 8, x.goBack(0));
        Check.same("saved again", 1, x.count(11));
    }

    /** The call saves the state from before it, and only that once. */
    private static void undoable(CorkPermits x, String what, LongSupplier call) {
        long before = x.digest();
        int saved = x.count(11);
        call.getAsLong();
        Check.same(what + " saves", saved + 1, x.count(11));
        Check.same(what + " is undone to", saved, x.undo());
        Check.same(what + " is undone", before, x.digest());
    }

    private static void undoables() {
        CorkPermits x = busy();
        x.undo();
        x.undo();
        x.keep(0);
        undoable(x, "house", x::house);
        undoable(x, "bottles", () -> x.bottles(0, 17));
        undoable(x, "lend", () -> x.lend(1, 1));
        undoable(x, "ask", () -> x.ask(1, 1));
        undoable(x, "want", () -> x.want(1, 1));
        undoable(x, "drink", () -> x.drink(0));
        undoable(x, "pass", () -> x.pass(60));
        undoable(x, "set", () -> x.set(1, 7));
        x.pass(9);
        undoable(x, "goBack", () -> x.goBack(0));
        type(x, "t1t1");
        int saved = x.count(11);
        Check.same("run", 2, x.run());
        Check.same("run saves once", saved + 1, x.count(11));
    }

    /** Two houses; pours arrived, lost and known to be lost, and much under way. */
    private static CorkPermits busy() {
        CorkPermits x = withHouses(2);
        x.bottles(0, 20);
        lendMany(x, 0, 0, 9);
        wantMany(x, 0, 0, 5);
        x.pass(2);
        x.set(1, 3);
        x.pass(7);
        wantMany(x, 0, 0, 8);
        x.want(1, 2);
        x.ask(0, 0);
        x.ask(1, 0);
        x.set(2, 1);
        x.pass(1);
        return x;
    }

    private static void looksThatAreWrong() {
        CorkPermits x = withHouses(2);
        for (int kind : WRONG_KINDS) {
            refuses(x, "kind", INDEX, () -> x.kind(kind, 7));
            refuses(x, "houseOf", INDEX, () -> x.houseOf(0, kind, 10));
            refuses(x, "houseOf", INDEX, () -> x.houseOf(kind, 0, 0));
            refuses(x, "setting", INDEX, () -> x.setting(kind));
        }
        refuses(x, "houseOf", INDEX, () -> x.houseOf(2, 0, 0));
        for (int what : new int[] {-1, 12, Integer.MIN_VALUE, Integer.MAX_VALUE}) {
            refuses(x, "kind", ARGUMENT, () -> x.kind(0, what));
            refuses(x, "houseOf", ARGUMENT, () -> x.houseOf(0, 0, what));
            refuses(x, "letter", ARGUMENT, () -> x.letter(0, what));
            refuses(x, "count", ARGUMENT, () -> x.count(what));
            refuses(x, "ifPassed", ARGUMENT, () -> x.ifPassed(1, what));
        }
        refuses(x, "kind(0, 7)", ARGUMENT, () -> x.kind(0, 7));
        refuses(x, "houseOf(0, 0, 10)", ARGUMENT, () -> x.houseOf(0, 0, 10));
        refuses(x, "letter(0, 5)", ARGUMENT, () -> x.letter(0, 5));
        refuses(x, "letter(-1, 0)", ARGUMENT, () -> x.letter(-1, 0));
        Check.same("letter of a great rank", -1, x.letter(Integer.MAX_VALUE, 4));
        for (int ticks : new int[] {0, -1, 61, Integer.MIN_VALUE, Integer.MAX_VALUE}) {
            refuses(x, "ifPassed", ARGUMENT, () -> x.ifPassed(ticks, 0));
        }
        refuses(x, "ifPassed(1, 4)", ARGUMENT, () -> x.ifPassed(1, 4));
    }

    private static void ifPassed() {
        CorkPermits x = withHouses(1);
        x.set(1, 4);
        lendMany(x, 0, 0, 3);
        wantMany(x, 0, 0, 5);
        int[][] due = {
            // ticks, pours, arrivals, waiting, lost letters
            {1, 0, 0, 5, 0},
            {2, 1, 0, 4, 1},
            {3, 2, 0, 3, 1},
            {4, 3, 0, 2, 1},
            {5, 3, 1, 2, 1},
            {60, 3, 2, 2, 1},
        };
        long before = x.digest();
        for (int[] row : due) {
            for (int what = 0; what < 4; what++) {
                Check.same("ifPassed(" + row[0] + ", " + what + ")", row[what + 1],
                        x.ifPassed(row[0], what));
            }
        }
        Check.same("nothing changes", before, x.digest());
        x.pass(60);
        kinds("as it told", x, 0, 4, 2, 0, 2, 0, 2, 1);
        CorkPermits y = busy();
        int[] soFar = {y.count(5), y.count(6), 0, y.count(4)};
        int[] told = new int[4];
        for (int what = 0; what < 4; what++) {
            told[what] = y.ifPassed(5, what);
            Check.same("some number " + what, 1, told[what] > 0 && soFar[0] > 0 ? 1 : 0);
        }
        Check.same("pours made", told[0], y.pass(5));
        Check.same("pours that arrived", told[1], y.count(6) - soFar[1]);
        Check.same("pours that wait", told[2], y.count(8));
        Check.same("letters lost", told[3], y.count(4) - soFar[3]);
    }

    private static void stillIn() {
        CorkPermits x = withHouses(1);
        Check.same("nothing under way", 0, x.stillIn());
        x.ask(0, 0);
        Check.same("question and answer", 4, x.stillIn());
        x.set(0, 9);
        Check.same("a slow answer", 11, x.stillIn());
        CorkPermits y = longUnderWay();
        Check.same("201 ticks", -1, y.stillIn());
        y.pass(1);
        Check.same("200 ticks", 200, y.stillIn());
        y.pass(1);
        Check.same("199 ticks", 199, y.stillIn());
        for (int left = 199; left > 70; left--) {
            y.pass(1);
            Check.same("under way", 1, y.count(2) > 0 ? 1 : 0);
        }
        y.pass(60);
        Check.same("10 ticks", 10, y.stillIn());
        y.pass(9);
        Check.same("under way", 1, y.count(2) > 0 ? 1 : 0);
        y.pass(1);
        Check.same("still", 0, y.count(2));
    }

    private static void hidden() {
        CorkPermits x = withHouses(2);
        lendMany(x, 0, 0, 2);
        lendMany(x, 1, 2, 1);
        wantMany(x, 0, 0, 2);
        x.want(1, 2);
        x.pass(2);
        Check.same("under way counts", 2, x.hidden());
        x.pass(1);
        Check.same("three", 3, x.hidden());
        x.pass(1);
        Check.same("two arrived", 1, x.hidden());
        x.pass(1);
        Check.same("all arrived", 0, x.hidden());
    }

    private static void neediest() {
        CorkPermits x = withHouses(3);
        Check.same("none", -1, x.neediest());
        x.want(2, 0);
        Check.same("the only one", 2, x.neediest());
        x.want(1, 1);
        Check.same("the lowest", 1, x.neediest());
        x.want(2, 2);
        Check.same("over all kinds", 2, x.neediest());
        lendMany(x, 2, 2, 2);
        x.lend(2, 1);
        x.pass(2);
        Check.same("a cork of another kind is no help", 1, x.neediest());
        x.want(2, 2);
        Check.same("a cork is there", 1, x.neediest());
        x.want(2, 2);
        Check.same("beyond its corks", 2, x.neediest());
        wantMany(x, 0, 1, 2);
        Check.same("of several the lowest", 0, x.neediest());
        CorkPermits y = withHouses(1);
        lendMany(y, 0, 0, 2);
        y.pass(2);
        y.want(0, 0);
        Check.same("it has a cork", -1, y.neediest());
    }

    private static void arrivedShare() {
        CorkPermits x = withHouses(1);
        Check.same("none", Double.doubleToLongBits(1.0), Double.doubleToLongBits(x.arrivedShare()));
        x.bottles(0, 20);
        x.set(0, 1);
        lendMany(x, 0, 0, 20);
        x.pass(1);
        x.set(1, 3);
        for (int pour = 1; pour <= 18; pour++) {
            x.want(0, 0);
            x.pass(2);
            double due = (double) x.count(6) / (x.count(6) + x.count(7));
            if (x.count(6) + x.count(7) > 0) {
                Check.same("share", Double.doubleToLongBits(due),
                        Double.doubleToLongBits(x.arrivedShare()));
            }
        }
        Check.same("arrived", 12, x.count(6));
        Check.same("known to be lost", 6, x.count(7));
    }

    private static void digest() {
        CorkPermits x = new CorkPermits();
        long hash = hashOf(3253, 0, 0, 0, 0, 0, 0, 0, 0, 0, 0, 0, 0, 2, 0, 0);
        for (int kind = 0; kind < 3; kind++) {
            hash = hashOf(hash, 4, 0, 0, 4, 0, 0, 0);
        }
        for (int value = 0; value < 50; value++) {
            hash = hashOf(hash, -1);
        }
        hash = hashOf(hash, 0, 0, 0, 0, 0, 0, -1, 0x3ff0000000000000L);
        Check.same("digest", hashOf(hash, 0, 0, 0), x.digest());
        x.keep(1);
        Check.same("digest with a slot", hashOf(hash, 0, 1, 0), x.digest());
        x.append('t');
        x.append('!');
        Check.same("digest with a text", hashOf(hash, 0, 1, 2, 116, 33), x.digest());
        for (int ticks = 1; ticks <= 12; ticks++) {
            CorkPermits y = busy();
            y.pass(ticks);
            Check.same("digest of much", hashOfLooks(y, 0, 0, ""), y.digest());
            Check.same("digest of a share", 1, ticks < 12 || y.arrivedShare() < 1.0 ? 1 : 0);
        }
        CorkPermits z = longUnderWay();
        Check.same("digest of four houses", hashOfLooks(z, 0, 0, ""), z.digest());
    }

    public static void main(String[] args) {
        newObject();
        houses();
        bottles();
        lend();
        ask();
        questionsInACrowd();
        want();
        drink();
        pass();
        limitOfTheTime();
        set();
        lostLetters();
        answers();
        overtakenPour();
        corksByThemselves();
        buffer();
        errors();
        run();
        snapshots();
        undo();
        undoables();
        looksThatAreWrong();
        ifPassed();
        stillIn();
        hidden();
        neediest();
        arrivedShare();
        digest();
        Check.end();
    }
}

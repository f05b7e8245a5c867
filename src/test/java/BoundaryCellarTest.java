/** The boundary cases of promises 1 to 9: the cellar and its houses. */
public final class BoundaryCellarTest extends Scenes {
    private static final int[] NO_KINDS = {-1, 3, LEAST, GREATEST};
    /** Of a cellar with two houses. */
    private static final int[] NO_HOUSES = {-1, 2, 3, 4, LEAST, GREATEST};

    private BoundaryCellarTest() {
    }

    // ---- 1: a new object

    private static void newObject() {
        Check.about("Promise 1", "Creates a cellar without houses, at the time 0, with empty slots and"
                + " an empty buffer.");
        CorkPermits x = new CorkPermits();
        counts("new", x, 0, 0, 0, 0, 0, 0, 0, 0, 0, 0, 0, 0);
        letters("new", x, 0, -1, -1, -1, -1, -1);
        Check.same("no text", 0, x.clearBuffer());
        refused("the first slot", STATE, CorkPermits::new, c -> c.goBack(0));
        refused("the second slot", STATE, CorkPermits::new, c -> c.goBack(1));
        refused("nothing to undo", STATE, CorkPermits::new, CorkPermits::undo);
        refused("an empty text", ARGUMENT, CorkPermits::new, CorkPermits::run);
        refused("no house 0", INDEX, CorkPermits::new, c -> c.houseOf(0, 0, 0));
        refused("no house to lend to", INDEX, CorkPermits::new, c -> c.lend(0, 0));
        refused("no house to ask", INDEX, CorkPermits::new, c -> c.ask(0, 0));
        refused("no house that wants", INDEX, CorkPermits::new, c -> c.want(0, 0));
        refused("nothing to drink", STATE, CorkPermits::new, c -> c.drink(0));
        taken("ticks without houses", 0, CorkPermits::new, c -> c.pass(60));
    }

    private static void lastCalls() {
        Check.about("What it is", "An object is used for at most 512 calls after it has been made");
        CorkPermits x = new CorkPermits();
        for (int call = 1; call <= 510; call += 2) {
            x.pass(60);
            x.undo();
        }
        x.house();
        Check.same("the 512th call", 1, x.lend(0, 0));
    }

    // ---- 2: house

    private static CorkPermits richWithFourHouses() {
        CorkPermits x = rich();
        x.house();
        x.house();
        return x;
    }

    private static void houses() {
        Check.about("Promise 2", "Throws `IllegalStateException` if there are 4");
        CorkPermits x = withHouses(3);
        Check.same("the fourth", 3, x.house());
        Check.same("four", 4, x.count(1));
        refused("a fifth", STATE, BoundaryCellarTest::richWithFourHouses, CorkPermits::house);
        Check.same("undo", 3, x.undo());
        Check.same("the fourth again", 3, x.house());
        CorkPermits y = withHouses(3);
        y.keep(0);
        y.house();
        y.lend(3, 0);
        y.goBack(0);
        Check.same("the fourth after going back", 3, y.house());
        numbers("it has nothing", y, 3, 0, 0, 0, 0, 0, 0, 0, 0, 1, 0, 0);
    }

    private static void numbersOfHouses() {
        Check.about("Promise 2", "Returns its number.");
        CorkPermits x = new CorkPermits();
        for (int number = 0; number < 4; number++) {
            Check.same("in the order in which they came", number, x.house());
        }
    }

    // ---- 3: bottles

    private static void kindsOfBottles() {
        Check.about("Promise 3", "Throws `IndexOutOfBoundsException` if there is no such kind");
        taken("the first kind", 9, Scenes::rich, c -> c.bottles(0, 20));
        taken("the last kind", 4, Scenes::rich, c -> c.bottles(2, 20));
        for (int kind : NO_KINDS) {
            refused("kind " + kind, INDEX, Scenes::rich, c -> c.bottles(kind, 4));
            refused("kind " + kind + " and too many", INDEX, Scenes::rich, c -> c.bottles(kind, 21));
            refused("kind " + kind + " and too few", INDEX, Scenes::rich, c -> c.bottles(kind, -1));
        }
    }

    private static void leastAndMostBottles() {
        Check.about("Promise 3", "Throws `IllegalArgumentException` if many is out of range");
        CorkPermits x = new CorkPermits();
        Check.same("20", 4, x.bottles(1, 20));
        Check.same("0", 20, x.bottles(1, 0));
        Check.same("0 again", 0, x.bottles(1, 0));
        Check.same("it changes nothing, and is saved", 3, x.count(11));
        for (int many : new int[] {-1, 21, LEAST, GREATEST}) {
            refused(many + " of kind 1", ARGUMENT, Scenes::rich, c -> c.bottles(1, many));
            refused(many + " of a kind with corks out", ARGUMENT, Scenes::rich,
                    c -> c.bottles(0, many));
        }
    }

    /** Of kind 0 there are two full bottles, and three corks are out, of two houses. */
    private static CorkPermits fullAndOut() {
        CorkPermits x = withHouses(2);
        x.bottles(0, 6);
        fillBottles(x, 1, 0, 2);
        x.lend(0, 0);
        lendMany(x, 1, 0, 2);
        return x;
    }

    private static CorkPermits withTwoFull() {
        CorkPermits x = withHouses(1);
        fillBottles(x, 0, 0, 2);
        return x;
    }

    private static CorkPermits withTwoOut() {
        CorkPermits x = withHouses(2);
        x.lend(0, 0);
        x.lend(1, 0);
        return x;
    }

    private static CorkPermits withTwentyOut() {
        CorkPermits x = withHouses(1);
        x.bottles(0, 20);
        lendMany(x, 0, 0, 20);
        return x;
    }

    private static void fewestBottles() {
        Check.about("Promise 3", "Throws `IllegalStateException` if these are fewer than the full ones"
                + " and the corks that are out together");
        taken("as many as both", 6, BoundaryCellarTest::fullAndOut, c -> c.bottles(0, 5));
        refused("one fewer", STATE, BoundaryCellarTest::fullAndOut, c -> c.bottles(0, 4));
        refused("none", STATE, BoundaryCellarTest::fullAndOut, c -> c.bottles(0, 0));
        taken("of another kind none", 4, BoundaryCellarTest::fullAndOut, c -> c.bottles(1, 0));
        taken("the full ones", 4, BoundaryCellarTest::withTwoFull, c -> c.bottles(0, 2));
        refused("fewer than the full ones", STATE, BoundaryCellarTest::withTwoFull,
                c -> c.bottles(0, 1));
        taken("those out", 4, BoundaryCellarTest::withTwoOut, c -> c.bottles(0, 2));
        refused("fewer than those out", STATE, BoundaryCellarTest::withTwoOut, c -> c.bottles(0, 1));
        taken("20 with 20 out", 20, BoundaryCellarTest::withTwentyOut, c -> c.bottles(0, 20));
        refused("19 with 20 out", STATE, BoundaryCellarTest::withTwentyOut, c -> c.bottles(0, 19));
    }

    private static void bottlesAfterARecount() {
        Check.about("Promise 3", "Throws `IllegalStateException` if these are fewer than the full ones"
                + " and the corks that are out together");
        CorkPermits x = withCorks(1);
        x.set(1, 1);
        x.want(0, 0);
        x.pass(1);
        x.set(1, 0);
        Check.refuses("a lost pour is out", STATE, () -> x.bottles(0, 0));
        x.ask(0, 0);
        x.pass(4);
        Check.same("recounted, it is not", 20, x.bottles(0, 0));
    }

    // ---- 4: lend

    private static void placesToLendTo() {
        Check.about("Promise 4", "Throws `IndexOutOfBoundsException` if there is no such house or kind");
        taken("the last house and kind", 2, Scenes::rich, c -> c.lend(1, 2));
        taken("the last house, the first kind", 1, Scenes::rich, c -> c.lend(1, 0));
        for (int house : NO_HOUSES) {
            refused("house " + house, INDEX, Scenes::rich, c -> c.lend(house, 0));
            refused("house " + house + ", 40 letters", INDEX, BoundaryCellarTest::crowded,
                    c -> c.lend(house, 0));
            refused("house " + house + ", none free", INDEX, BoundaryCellarTest::withoutFree,
                    c -> c.lend(house, 0));
        }
        for (int kind : NO_KINDS) {
            refused("kind " + kind, INDEX, Scenes::rich, c -> c.lend(0, kind));
            refused("kind " + kind + ", 40 letters", INDEX, BoundaryCellarTest::crowded,
                    c -> c.lend(0, kind));
        }
        taken("house 3 of four", 1, BoundaryCellarTest::richWithFourHouses, c -> c.lend(3, 2));
        refused("house 4 of four", INDEX, BoundaryCellarTest::richWithFourHouses, c -> c.lend(4, 2));
    }

    private static CorkPermits crowded() {
        CorkPermits x = rich();
        x.set(1, 0);
        x.set(0, 9);
        fillWithLetters(x);
        return x;
    }

    private static CorkPermits withRoomForOne() {
        CorkPermits x = crowded();
        x.undo();
        return x;
    }

    /** Both slots, a text, and no bottle of kind 0 that is free. */
    private static CorkPermits withoutFree() {
        CorkPermits x = rich();
        x.bottles(0, x.kind(0, 1) + x.kind(0, 2));
        return x;
    }

    private static void noBottleToLendFor() {
        Check.about("Promise 4", "Throws `IllegalStateException` if no empty bottle is free, or 40"
                + " letters are under way");
        CorkPermits x = withHouses(2);
        lendMany(x, 0, 1, 3);
        Check.same("the last bottle", 1, x.lend(1, 1));
        Check.refuses("all are out", STATE, () -> x.lend(1, 1));
        Check.refuses("all are out, for any house", STATE, () -> x.lend(0, 1));
        Check.same("another kind", 1, x.lend(1, 2));
        x.bottles(1, 5);
        Check.same("one bottle more", 2, x.lend(1, 1));
        Check.refuses("all are out again", STATE, () -> x.lend(1, 1));
        refused("none free", STATE, BoundaryCellarTest::withoutFree, c -> c.lend(0, 0));
        CorkPermits y = withHouses(1);
        y.bottles(0, 0);
        Check.refuses("no bottle", STATE, () -> y.lend(0, 0));
        y.bottles(0, 2);
        fillBottles(y, 0, 0, 2);
        Check.refuses("all are full", STATE, () -> y.lend(0, 0));
        y.drink(0);
        Check.same("one is drunk", 1, y.lend(0, 0));
        Check.refuses("it is out", STATE, () -> y.lend(0, 0));
        CorkPermits z = withHouses(1);
        z.bottles(2, 20);
        for (int out = 1; out <= 20; out++) {
            Check.same("of 20 bottles", out, z.lend(0, 2));
        }
        Check.refuses("a 21st", STATE, () -> z.lend(0, 2));
    }

    private static void noLetterToLendBy() {
        Check.about("Promise 4", "Throws `IllegalStateException` if no empty bottle is free, or 40"
                + " letters are under way");
        taken("39 letters", 1, BoundaryCellarTest::withRoomForOne, c -> c.lend(0, 1));
        refused("40 letters", STATE, BoundaryCellarTest::crowded, c -> c.lend(0, 1));
        CorkPermits x = withLetters(1, 39);
        x.set(1, 1);
        Check.same("39, a lost one", 1, x.lend(0, 0));
        Check.same("39 still", 39, x.count(2));
        Check.same("39, a lost one", 2, x.lend(0, 0));
        x.set(1, 0);
        x.ask(0, 0);
        x.set(1, 1);
        Check.refuses("40, though it would be lost", STATE, () -> x.lend(0, 0));
        x.pass(9);
        Check.same("room again", 3, x.lend(0, 0));
    }

    private static void corksThatAreOut() {
        Check.about("Promise 4", "Returns how many corks are out then, of this house and kind.");
        CorkPermits x = withHouses(2);
        Check.same("the first", 1, x.lend(0, 0));
        Check.same("of this house", 1, x.lend(1, 0));
        Check.same("of this kind", 1, x.lend(0, 1));
        Check.same("the second", 2, x.lend(0, 0));
        x.pass(2);
        wantMany(x, 0, 0, 2);
        x.pass(4);
        Check.same("two are accounted for", 0, x.houseOf(0, 0, 2));
        x.drink(0);
        Check.same("the third", 1, x.lend(0, 0));
    }

    // ---- 5: ask

    private static void placesToAsk() {
        Check.about("Promise 5", "Throws `IndexOutOfBoundsException` if there is no such house or kind");
        taken("the first house and kind", 2, Scenes::rich, c -> c.ask(0, 0));
        taken("the last house and kind", 2, Scenes::rich, c -> c.ask(1, 2));
        for (int house : NO_HOUSES) {
            refused("house " + house, INDEX, Scenes::rich, c -> c.ask(house, 0));
            refused("house " + house + ", 40 letters", INDEX, BoundaryCellarTest::crowded,
                    c -> c.ask(house, 0));
        }
        for (int kind : NO_KINDS) {
            refused("kind " + kind, INDEX, Scenes::rich, c -> c.ask(0, kind));
            refused("kind " + kind + ", 40 letters", INDEX, BoundaryCellarTest::crowded,
                    c -> c.ask(0, kind));
        }
    }

    private static void noLetterToAskBy() {
        Check.about("Promise 5", "Throws `IllegalStateException` if 40 letters are under way");
        taken("39 letters", 40, BoundaryCellarTest::withRoomForOne, c -> c.ask(1, 1));
        refused("40 letters", STATE, BoundaryCellarTest::crowded, c -> c.ask(1, 1));
        CorkPermits x = withLetters(1, 39);
        x.set(1, 1);
        Check.same("39, a lost one", 39, x.ask(0, 0));
        x.set(1, 0);
        Check.same("the 40th", 40, x.ask(0, 0));
        x.set(1, 1);
        Check.refuses("40, though it would be lost", STATE, () -> x.ask(0, 0));
        x.pass(9);
        Check.same("no answer came through", 0, x.count(2));
        x.set(1, 0);
        Check.same("room again", 1, x.ask(0, 0));
    }

    private static void lettersUnderWay() {
        Check.about("Promise 5", "Returns how many letters are under way then.");
        CorkPermits x = withHouses(1);
        for (int letters = 1; letters <= 40; letters++) {
            Check.same("letters", letters, x.ask(0, letters % 3));
        }
        CorkPermits y = withHouses(1);
        y.set(1, 1);
        Check.same("a lost one is not under way", 0, y.ask(0, 0));
    }

    // ---- 6: want

    private static CorkPermits withNineWaiting() {
        CorkPermits x = rich();
        wantMany(x, 0, 1, 9);
        return x;
    }

    private static void placesThatWant() {
        Check.about("Promise 6", "Throws `IndexOutOfBoundsException` if there is no such house or kind");
        taken("the first house and kind", 1, Scenes::rich, c -> c.want(0, 0));
        taken("the last house and kind", 2, Scenes::rich, c -> c.want(1, 2));
        for (int house : NO_HOUSES) {
            refused("house " + house, INDEX, Scenes::rich, c -> c.want(house, 1));
            refused("house " + house + ", 9 wait", INDEX, BoundaryCellarTest::withNineWaiting,
                    c -> c.want(house, 1));
        }
        for (int kind : NO_KINDS) {
            refused("kind " + kind, INDEX, Scenes::rich, c -> c.want(0, kind));
            refused("kind " + kind + ", 9 wait", INDEX, BoundaryCellarTest::withNineWaiting,
                    c -> c.want(0, kind));
        }
    }

    private static void mostThatWait() {
        Check.about("Promise 6", "Throws `IllegalStateException` if 9 wait");
        CorkPermits x = withCorks(1);
        for (int waiting = 1; waiting <= 9; waiting++) {
            Check.same("waiting", waiting, x.want(0, 0));
        }
        Check.refuses("a tenth", STATE, () -> x.want(0, 0));
        Check.same("of another kind", 1, x.want(0, 1));
        x.house();
        Check.same("of another house", 1, x.want(1, 0));
        Check.same("one is poured", 1, x.pass(1));
        Check.same("the ninth again", 9, x.want(0, 0));
        Check.refuses("a tenth again", STATE, () -> x.want(0, 0));
        refused("a tenth", STATE, BoundaryCellarTest::withNineWaiting, c -> c.want(0, 1));
    }

    // ---- 7: drink

    private static void kindsToDrink() {
        Check.about("Promise 7", "Throws `IndexOutOfBoundsException` if there is no such kind");
        for (int kind : NO_KINDS) {
            refused("kind " + kind, INDEX, Scenes::rich, c -> c.drink(kind));
            refused("kind " + kind + ", none full", INDEX, CorkPermits::new, c -> c.drink(kind));
        }
        CorkPermits x = withHouses(1);
        fillBottles(x, 0, 0, 1);
        fillBottles(x, 0, 2, 2);
        Check.same("the first kind", 0, x.drink(0));
        Check.same("the last kind", 1, x.drink(2));
    }

    private static void noneToDrink() {
        Check.about("Promise 7", "Throws `IllegalStateException` if none is full");
        CorkPermits x = withHouses(1);
        x.bottles(1, 20);
        fillBottles(x, 0, 1, 20);
        for (int full = 19; full >= 0; full--) {
            Check.same("drink", full, x.drink(1));
        }
        kinds("all were drunk", x, 1, 20, 0, 0, 20, 20, 20, 0);
        Check.refuses("none is left", STATE, () -> x.drink(1));
        fillBottles(x, 0, 1, 1);
        Check.same("one more", 0, x.drink(1));
        refused("none of kind 1", STATE, Scenes::rich, c -> c.drink(1));
        CorkPermits y = withCorks(1);
        y.want(0, 0);
        y.pass(2);
        Check.refuses("the pour is under way", STATE, () -> y.drink(0));
        y.pass(1);
        Check.same("it arrived", 0, y.drink(0));
    }

    // ---- 8: pass

    private static CorkPermits late(int time) {
        CorkPermits x = rich();
        passTo(x, time);
        return x;
    }

    private static void ticksOutOfRange() {
        Check.about("Promise 8", "Throws `IllegalArgumentException` if ticks is out of range");
        CorkPermits x = withHouses(1);
        x.pass(1);
        Check.same("one", 1, x.count(0));
        x.pass(60);
        Check.same("sixty", 61, x.count(0));
        for (int ticks : new int[] {0, 61, -1, LEAST, GREATEST}) {
            refused("pass " + ticks, ARGUMENT, Scenes::rich, c -> c.pass(ticks));
            refused("pass " + ticks + " at the last time", ARGUMENT, () -> late(9999),
                    c -> c.pass(ticks));
        }
    }

    private static void lastTime() {
        Check.about("Promise 8", "Throws `IllegalStateException` if the time would be above 9999");
        taken("60 to 9999", 0, () -> late(9939), c -> c.pass(60));
        refused("60 to 10000", STATE, () -> late(9940), c -> c.pass(60));
        taken("59 to 9999", 0, () -> late(9940), c -> c.pass(59));
        refused("1 to 10000", STATE, () -> late(9999), c -> c.pass(1));
        refused("60 from 9999", STATE, () -> late(9999), c -> c.pass(60));
        CorkPermits x = withHouses(1);
        passTo(x, 9998);
        x.pass(1);
        Check.same("the last time", 9999, x.count(0));
        Check.same("the rest goes on", 1, x.lend(0, 1));
        letters("a letter beyond it", x, 0, 0, 0, 1, 1, 10001);
        Check.same("a question", 2, x.ask(0, 1));
        x.undo();
        x.undo();
        x.undo();
        Check.same("back", 9998, x.count(0));
    }

    private static void poursOfTicks() {
        Check.about("Promise 8", "Returns how many pours are made in them.");
        CorkPermits x = withCorks(9);
        Check.same("none", 0, x.pass(1));
        wantMany(x, 0, 0, 9);
        Check.same("one", 1, x.pass(1));
        Check.same("those after it", 8, x.pass(60));
        Check.same("none any more", 0, x.pass(60));
    }

    // ---- 9: set

    private static void noSuchSetting() {
        Check.about("Promise 9", "Throws `IndexOutOfBoundsException` if there is no such setting");
        taken("the first", 2, Scenes::rich, c -> c.set(0, 1));
        taken("the last", 0, Scenes::rich, c -> c.set(2, 1));
        for (int setting : new int[] {-1, 3, LEAST, GREATEST}) {
            refused("setting " + setting, INDEX, Scenes::rich, c -> c.set(setting, 1));
            refused("setting " + setting + ", too little", INDEX, Scenes::rich,
                    c -> c.set(setting, -1));
            refused("setting " + setting + ", too much", INDEX, Scenes::rich,
                    c -> c.set(setting, 100));
        }
    }

    private static void settingRange(int setting, int first, int least, int greatest) {
        CorkPermits x = withHouses(1);
        Check.same("at first", first, x.setting(setting));
        Check.same("the least", first, x.set(setting, least));
        Check.same("the greatest", least, x.set(setting, greatest));
        Check.same("the greatest again", greatest, x.set(setting, greatest));
        Check.same("the greatest", greatest, x.setting(setting));
        for (int value : new int[] {least - 1, greatest + 1, LEAST, GREATEST}) {
            refused("setting " + setting + " as " + value, ARGUMENT, Scenes::rich,
                    c -> c.set(setting, value));
        }
    }

    private static void settingsOutOfRange() {
        Check.about("Promise 9", "Throws `IllegalArgumentException` if value is out of range");
        Check.about("Terms, Settings", "0: ticks of a letter, 1 to 9, at first 2");
        settingRange(0, 2, 1, 9);
        Check.about("Terms, Settings", "1: which letters are lost, 0 to 99, at first 0");
        settingRange(1, 0, 0, 99);
        Check.about("Terms, Settings", "2: corks that are out by themselves, 0 to 9, at first 0.");
        settingRange(2, 0, 0, 9);
    }

    private static void lettersKeepTheirTime() {
        Check.about("Promise 9", "(letters under way arrive when they would have)");
        CorkPermits x = withHouses(1);
        x.set(0, 9);
        x.ask(0, 0);
        x.set(0, 1);
        x.ask(0, 1);
        letters("slow", x, 0, 2, 0, 0, 0, 9);
        letters("fast", x, 1, 2, 0, 1, 0, 1);
        x.pass(8);
        letters("slow still", x, 0, 2, 0, 0, 0, 9);
        Check.same("no other", 1, x.count(2));
        x.pass(1);
        letters("its answer is fast", x, 0, 3, 0, 0, 0, 10);
    }

    public static void main(String[] args) {
        newObject();
        lastCalls();
        houses();
        numbersOfHouses();
        kindsOfBottles();
        leastAndMostBottles();
        fewestBottles();
        bottlesAfterARecount();
        placesToLendTo();
        noBottleToLendFor();
        noLetterToLendBy();
        corksThatAreOut();
        placesToAsk();
        noLetterToAskBy();
        lettersUnderWay();
        placesThatWant();
        mostThatWait();
        kindsToDrink();
        noneToDrink();
        ticksOutOfRange();
        lastTime();
        poursOfTicks();
        noSuchSetting();
        settingsOutOfRange();
        lettersKeepTheirTime();
        Check.end();
    }
}

/** The boundary cases of promises 17 to 27: looks, what would be, and the digest. */
public final class BoundaryLooksTest extends Scenes {
    private static final int[] NO_KINDS = {-1, 3, LEAST, GREATEST};
    private static final int[] NO_HOUSES = {-1, 2, 3, 4, LEAST, GREATEST};

    private BoundaryLooksTest() {
    }

    private static int[] notUpTo(int last) {
        return new int[] {-1, last + 1, LEAST, GREATEST};
    }

    // ---- 17: kind

    private static void kindsThatAreNone() {
        Check.about("Promise 17", "Throws `IndexOutOfBoundsException` if there is no such kind");
        for (int kind : NO_KINDS) {
            refused("kind " + kind, INDEX, Scenes::rich, c -> c.kind(kind, 0));
            refused("kind " + kind + " and what", INDEX, Scenes::rich, c -> c.kind(kind, 7));
            refused("kind " + kind + " and what", INDEX, Scenes::rich, c -> c.kind(kind, -1));
        }
        Check.about("Promise 17", "Throws `IllegalArgumentException` if what is not 0 to 6");
        for (int what : notUpTo(6)) {
            refused("what " + what, ARGUMENT, Scenes::rich, c -> c.kind(2, what));
        }
    }

    private static void propertiesOfAKind() {
        Check.about("Promise 17", "0: bottles; 1: full ones; 2: corks of all houses that are out; 3:"
                + " empty bottles that are free; 4: bottles drunk empty so far; 5: pours that arrived"
                + " so far; 6: pours known to be lost so far");
        CorkPermits x = withHouses(2);
        x.bottles(2, 13);
        fillBottles(x, 0, 2, 3);
        fillBottles(x, 1, 2, 4);
        x.drink(2);
        x.drink(2);
        x.lend(1, 2);
        x.set(1, 1);
        x.lend(1, 2);
        x.want(1, 2);
        x.pass(2);
        x.set(1, 0);
        x.ask(1, 2);
        x.pass(4);
        x.lend(0, 2);
        kinds("one of each", x, 2, 13, 5, 2, 6, 2, 7, 1);
        kinds("nothing of another", x, 1, 4, 0, 0, 4, 0, 0, 0);
    }

    // ---- 18: houseOf

    private static void placesThatAreNone() {
        Check.about("Promise 18", "Throws `IndexOutOfBoundsException` if there is no such house or kind");
        for (int house : NO_HOUSES) {
            refused("house " + house, INDEX, Scenes::rich, c -> c.houseOf(house, 0, 0));
            refused("house " + house + " and what", INDEX, Scenes::rich,
                    c -> c.houseOf(house, 0, 10));
            refused("house " + house + " and what", INDEX, Scenes::rich,
                    c -> c.houseOf(house, 0, -1));
        }
        for (int kind : NO_KINDS) {
            refused("kind " + kind, INDEX, Scenes::rich, c -> c.houseOf(1, kind, 0));
            refused("kind " + kind + " and what", INDEX, Scenes::rich, c -> c.houseOf(1, kind, 10));
            refused("kind " + kind + " and what", INDEX, Scenes::rich, c -> c.houseOf(1, kind, -1));
        }
        CorkPermits x = withHouses(4);
        numbers("the last", x, 3, 2, 0, 0, 0, 0, 0, 0, 0, 1, 0, 0);
        x.undo();
        Check.refuses("it did not come", INDEX, () -> x.houseOf(3, 2, 0));
        Check.about("Promise 18", "Throws `IllegalArgumentException` if what is not 0 to 9");
        for (int what : notUpTo(9)) {
            refused("what " + what, ARGUMENT, Scenes::rich, c -> c.houseOf(1, 2, what));
        }
    }

    private static void notToldAndNotAccounted() {
        Check.about("Promise 18",
                "8: corks that are out and are not told to the house; 9: pours made that are not accounted for");
        CorkPermits x = withHouses(1);
        lendMany(x, 0, 0, 3);
        numbers("none is told", x, 0, 0, 3, 0, 3, 0, 0, 0, 0, 1, 3, 0);
        x.pass(2);
        numbers("all are told", x, 0, 0, 3, 0, 3, 3, 0, 3, 0, 1, 0, 0);
        wantMany(x, 0, 0, 2);
        x.pass(2);
        numbers("two are poured", x, 0, 0, 3, 0, 3, 3, 2, 1, 0, 1, 0, 2);
        x.pass(2);
        numbers("two are accounted for", x, 0, 0, 3, 2, 1, 3, 2, 1, 0, 1, 0, 0);
        x.lend(0, 0);
        numbers("one more is not told", x, 0, 0, 4, 2, 2, 3, 2, 1, 0, 1, 1, 0);
    }

    // ---- 19: letter

    private static void lettersThatAreNone() {
        Check.about("Promise 19", "Returns the number; NONE if there are not so many.");
        CorkPermits x = withLetters(1, 40);
        letters("the 40th", x, 39, 2, 0, 2, 0, 9);
        letters("a 41st", x, 40, -1, -1, -1, -1, -1);
        letters("the greatest rank", x, GREATEST, -1, -1, -1, -1, -1);
        CorkPermits y = withHouses(1);
        letters("no letter", y, 0, -1, -1, -1, -1, -1);
        y.ask(0, 1);
        letters("one", y, 0, 2, 0, 1, 0, 2);
        letters("no second", y, 1, -1, -1, -1, -1, -1);
        Check.same("NONE", CorkPermits.NONE, y.letter(1, 0));
    }

    private static void lettersThatWereLost() {
        Check.about("Promise 19", "Returns something of a letter under way that was not lost.");
        CorkPermits x = withHouses(1);
        x.set(1, 2);
        x.lend(0, 0);
        x.lend(0, 1);
        x.lend(0, 2);
        letters("the first", x, 0, 0, 0, 0, 1, 2);
        letters("the third", x, 1, 0, 0, 2, 1, 2);
        letters("no other", x, 2, -1, -1, -1, -1, -1);
    }

    private static void wrongLooksAtLetters() {
        Check.about("Promise 19", "Throws `IllegalArgumentException` if rank is below 0, or what is not"
                + " 0 to 4");
        for (int rank : new int[] {-1, LEAST}) {
            refused("rank " + rank, ARGUMENT, Scenes::rich, c -> c.letter(rank, 0));
            refused("rank " + rank + " and what", ARGUMENT, Scenes::rich, c -> c.letter(rank, 5));
        }
        for (int what : notUpTo(4)) {
            refused("what " + what, ARGUMENT, Scenes::rich, c -> c.letter(0, what));
            refused("what " + what + ", no letter", ARGUMENT, Scenes::rich, c -> c.letter(40, what));
        }
    }

    // ---- 20: count, 21: setting

    private static void countsAndSettingsThatAreNone() {
        Check.about("Promise 20", "Throws `IllegalArgumentException` if what is not 0 to 11");
        for (int what : notUpTo(11)) {
            refused("what " + what, ARGUMENT, Scenes::rich, c -> c.count(what));
        }
        taken("the first", 6, Scenes::rich, c -> c.count(0));
        taken("the last", 6, Scenes::rich, c -> c.count(11));
        Check.about("Promise 21", "Throws `IndexOutOfBoundsException` if there is no such setting");
        for (int setting : notUpTo(2)) {
            refused("setting " + setting, INDEX, Scenes::rich, c -> c.setting(setting));
        }
        taken("the first", 2, Scenes::rich, c -> c.setting(0));
        taken("the last", 0, Scenes::rich, c -> c.setting(2));
    }

    private static void countsOfLost() {
        Check.about("Promise 20", "2: letters under way (those that were lost are not); 3: letters sent"
                + " so far; 4: letters lost so far");
        CorkPermits x = withHouses(1);
        x.set(1, 1);
        x.ask(0, 0);
        counts("all are lost", x, 0, 1, 0, 1, 1);
        x.set(1, 0);
        askMany(x, 0, 0, 40);
        counts("40 and a lost one", x, 0, 1, 40, 41, 1);
    }

    // ---- 22: ifPassed

    private static void wrongLooksAhead() {
        Check.about("Promise 22", "Throws `IllegalArgumentException` if an argument is out of range");
        for (int ticks : new int[] {0, 61, -1, LEAST, GREATEST}) {
            refused("ticks " + ticks, ARGUMENT, Scenes::rich, c -> c.ifPassed(ticks, 0));
            refused("ticks " + ticks + " and what", ARGUMENT, Scenes::rich, c -> c.ifPassed(ticks, 4));
        }
        for (int what : notUpTo(3)) {
            refused("what " + what, ARGUMENT, Scenes::rich, c -> c.ifPassed(1, what));
            refused("what " + what, ARGUMENT, Scenes::rich, c -> c.ifPassed(60, what));
        }
    }

    /**
     * A cork is lent, told, poured by, and accounted for, in 18 ticks again and again: of kind 0 one
     * is lent at the times 1, 19, 37.., a pour is made at 10, 28, 46.. and arrives at 19, 37, 55..
     */
    private static CorkPermits lendingAndPouring(int ticks) {
        CorkPermits x = withHouses(1);
        x.bottles(0, 20);
        x.bottles(1, 0);
        x.bottles(2, 0);
        wantMany(x, 0, 0, 9);
        x.set(0, 9);
        x.set(1, 8);
        x.set(2, 1);
        passTo(x, ticks);
        return x;
    }

    private static void ahead(CorkPermits x, int ticks, int... due) {
        for (int what = 0; what < due.length; what++) {
            Check.same("ifPassed(" + ticks + ", " + what + ")", due[what], x.ifPassed(ticks, what));
        }
    }

    private static void ticksAhead() {
        Check.about("Promise 22", "0: pours made in them; 1: pours that arrive in them (by which a"
                + " bottle becomes full); 2: pours that wait then; 3: letters lost in them");
        CorkPermits x = lendingAndPouring(4);
        ahead(x, 59, 3, 3, 6, 0);
        ahead(x, 60, 4, 3, 5, 1);
        Check.same("so it is", 4, x.pass(60));
        counts("so it is", x, 64, 1, 0, 8, 1, 4, 3, 0, 5);
        CorkPermits y = lendingAndPouring(9);
        y.set(1, 0);
        ahead(y, 1, 1, 0, 8, 0);
        y.pass(8);
        ahead(y, 1, 0, 0, 8, 0);
        y.pass(1);
        ahead(y, 1, 0, 1, 8, 0);
        y.set(1, 3);
        ahead(y, 1, 0, 1, 8, 1);
        ahead(y, 60, 0, 1, 8, 1);
        CorkPermits z = lendingAndPouring(66);
        counts("some arrived, and one is lost", z, 66, 1, 0, 8, 1, 4, 3, 0, 5);
        ahead(z, 60, 0, 0, 5, 0);
    }

    private static void aheadOfNothing() {
        Check.about("Promise 22", "Tells what ticks would bring, if nothing is done.");
        CorkPermits x = new CorkPermits();
        ahead(x, 1, 0, 0, 0, 0);
        ahead(x, 60, 0, 0, 0, 0);
        CorkPermits y = withHouses(1);
        wantMany(y, 0, 0, 9);
        ahead(y, 60, 0, 0, 9, 0);
        CorkPermits z = withCorks(2);
        wantMany(z, 0, 0, 2);
        z.set(1, 1);
        ahead(z, 60, 2, 0, 0, 2);
        Check.same("nothing is changed", whole(ahead()), whole(looked(ahead())));
    }

    private static CorkPermits ahead() {
        CorkPermits x = rich();
        x.set(2, 9);
        return x;
    }

    private static CorkPermits looked(CorkPermits x) {
        for (int what = 0; what < 4; what++) {
            x.ifPassed(60, what);
        }
        x.stillIn();
        x.hidden();
        x.neediest();
        x.arrivedShare();
        x.digest();
        return x;
    }

    private static void beyondTheLastTime() {
        Check.about("The public face", "and the limit of the time does not matter");
        CorkPermits x = withHouses(1);
        passTo(x, 9999);
        lendMany(x, 0, 0, 2);
        wantMany(x, 0, 0, 3);
        ahead(x, 1, 0, 0, 3, 0);
        ahead(x, 60, 2, 2, 1, 0);
        Check.same("still in", 5, x.stillIn());
        Check.same("digest", hashOfLooks(x, 0, 0, ""), x.digest());
        Check.refuses("no tick", STATE, () -> x.pass(1));
    }

    // ---- 23: stillIn

    private static void stillAtOnce() {
        Check.about("Promise 23", "Returns in how many ticks, 0 to 200, no letter is under way for the"
                + " first time, if nothing is done; NONE if not within these.");
        CorkPermits x = withCorks(1);
        Check.same("no letter", 0, x.stillIn());
        x.want(0, 0);
        Check.same("no letter yet", 0, x.stillIn());
        Check.same("one will be", 1, x.ifPassed(1, 0));
        x.set(0, 1);
        x.pass(1);
        Check.same("one tick", 1, x.stillIn());
        CorkPermits y = withHouses(1);
        y.set(1, 1);
        y.ask(0, 0);
        Check.same("a lost one is not under way", 0, y.stillIn());
        y.set(1, 0);
        y.set(0, 9);
        y.ask(0, 0);
        Check.same("an answer too", 18, y.stillIn());
        y.set(1, 1);
        Check.same("no answer", 9, y.stillIn());
        Check.same("a new object", 0, new CorkPermits().stillIn());
    }

    private static void stillInTwoHundred() {
        Check.about("Promise 23", "Returns in how many ticks, 0 to 200, no letter is under way for the"
                + " first time, if nothing is done; NONE if not within these.");
        CorkPermits x = longUnderWay();
        Check.same("201", CorkPermits.NONE, x.stillIn());
        x.pass(1);
        Check.same("200", 200, x.stillIn());
        x.pass(60);
        Check.same("140", 140, x.stillIn());
        x.pass(60);
        x.pass(60);
        x.pass(19);
        Check.same("1", 1, x.stillIn());
        Check.same("a letter", 1, x.count(2));
        x.pass(1);
        Check.same("0", 0, x.stillIn());
        Check.same("no letter", 0, x.count(2));
    }

    // ---- 24: hidden

    private static void hiddenDownToNone() {
        Check.about("Promise 24", "Returns how many more pours (beyond those that are known to be lost"
                + " now) would be known to be lost");
        CorkPermits x = new CorkPermits();
        Check.same("no house", 0, x.hidden());
        CorkPermits y = withHouses(2);
        lendMany(y, 0, 0, 3);
        y.lend(1, 2);
        y.pass(2);
        Check.same("no pour", 0, y.hidden());
        wantMany(y, 0, 0, 3);
        y.want(1, 2);
        y.set(1, 1);
        y.pass(2);
        Check.same("of both", 3, y.hidden());
        y.set(1, 0);
        y.pass(1);
        Check.same("all made", 4, y.hidden());
        y.pass(2);
        counts("two are known to be lost", y, 7, 2, 0, 8, 3, 4, 1, 2);
        Check.same("one is not known", 1, y.hidden());
        y.ask(1, 2);
        y.pass(3);
        Check.same("until the answer", 1, y.hidden());
        y.pass(1);
        Check.same("none", 0, y.hidden());
        Check.same("three are known", 3, y.count(7));
    }

    // ---- 25: neediest

    private static void noneInNeed() {
        Check.about("Promise 25", "NONE if there is no such pour.");
        Check.same("no house", CorkPermits.NONE, new CorkPermits().neediest());
        CorkPermits x = withCorks(2);
        Check.same("no pour", CorkPermits.NONE, x.neediest());
        wantMany(x, 0, 0, 2);
        Check.same("as many corks", CorkPermits.NONE, x.neediest());
        x.want(0, 0);
        Check.same("one more", 0, x.neediest());
        CorkPermits y = withHouses(1);
        y.lend(0, 0);
        y.want(0, 0);
        Check.same("a cork under way is no cork", 0, y.neediest());
    }

    private static void severalInNeed() {
        Check.about("Promise 25", "of several the lowest");
        CorkPermits x = withHouses(4);
        x.want(3, 0);
        Check.same("the last", 3, x.neediest());
        x.want(2, 2);
        Check.same("the lower", 2, x.neediest());
        x.want(3, 1);
        Check.same("two of the last", 3, x.neediest());
        x.want(0, 0);
        x.want(0, 0);
        Check.same("the lowest", 0, x.neediest());
        for (int house = 0; house < 4; house++) {
            for (int kind = 0; kind < 3; kind++) {
                wantMany(x, house, kind, 9 - x.houseOf(house, kind, 6));
            }
        }
        Check.same("all in the most need", 0, x.neediest());
        Check.same("108", 108, x.count(8));
    }

    private static void needOfEachKind() {
        Check.about("Promise 25", "(over all kinds: what waits beyond its corks)");
        CorkPermits x = withHouses(2);
        lendMany(x, 0, 0, 4);
        x.pass(2);
        x.want(0, 1);
        Check.same("corks of another kind", 0, x.neediest());
        x.want(1, 0);
        x.want(1, 1);
        Check.same("over all kinds", 1, x.neediest());
    }

    // ---- 26: arrivedShare

    private static void share(String when, double due, CorkPermits x) {
        Check.same(when, Double.doubleToLongBits(due), Double.doubleToLongBits(x.arrivedShare()));
    }

    private static void sharesOfNone() {
        Check.about("Promise 26", "1.0 without any.");
        share("new", 1.0, new CorkPermits());
        CorkPermits x = withCorks(3);
        x.want(0, 0);
        x.set(1, 1);
        x.pass(1);
        share("none is accounted for", 1.0, x);
        x.set(1, 0);
        x.ask(0, 0);
        x.pass(4);
        share("all are lost", 0.0, x);
        x.want(0, 0);
        x.pass(3);
        share("one of two", 0.5, x);
        x.want(0, 0);
        x.pass(3);
        share("two of three", 2.0 / 3.0, x);
        CorkPermits y = withCorks(1);
        y.want(0, 0);
        y.pass(3);
        share("all arrived", 1.0, y);
    }

    // ---- 27: digest

    private static void digested(String when, CorkPermits x, int firstSlot, int secondSlot,
            String text) {
        Check.same(when, hashOfLooks(x, firstSlot, secondSlot, text), x.digest());
    }

    private static void digestOfTheEdges() {
        Check.about("Promise 27", "Computes a hash of the whole state. The hash starts at 3253.");
        digested("new", new CorkPermits(), 0, 0, "");
        digested("four houses", withHouses(4), 0, 0, "");
        digested("rich", rich(), 1, 1, "t1l0");
        digested("40 letters", withLetters(1, 40), 0, 0, "");
        digested("201 ticks", longUnderWay(), 0, 0, "");
        CorkPermits x = withCorks(3);
        x.set(1, 1);
        wantMany(x, 0, 0, 2);
        x.pass(2);
        x.set(1, 0);
        x.ask(0, 0);
        x.pass(4);
        digested("a share of 0", x, 0, 0, "");
        x.want(0, 0);
        x.pass(3);
        digested("a share of a third", x, 0, 0, "");
    }

    /** 45 pours are lost and recounted, so that their bottles are free again, and one arrives. */
    private static void digestOfShares() {
        Check.about("Promise 27", "the bits of arrivedShare (as Double.doubleToLongBits)");
        CorkPermits x = withHouses(1);
        x.bottles(0, 20);
        x.set(0, 1);
        for (int turn = 0; turn < 5; turn++) {
            x.set(1, 0);
            lendMany(x, 0, 0, 9);
            x.pass(1);
            x.set(1, 1);
            wantMany(x, 0, 0, 9);
            x.pass(9);
            x.set(1, 0);
            x.ask(0, 0);
            x.pass(2);
        }
        x.lend(0, 0);
        x.want(0, 0);
        x.pass(2);
        share("one of 46", 1.0 / 46.0, x);
        digested("one of 46", x, 0, 0, "");
    }

    private static CorkPermits withLetterOf(int before, int kind) {
        CorkPermits x = withHouses(1);
        askMany(x, 0, 0, before);
        x.ask(0, kind);
        return x;
    }

    private static void lettersOfTheDigest() {
        Check.about("Promise 27", "for the letters 0 to 9 their numbers 0 to 4 (NONE where there is"
                + " none)");
        long tenth = withLetterOf(9, 1).digest();
        Check.same("the tenth counts", 1, tenth != withLetterOf(9, 2).digest() ? 1 : 0);
        digested("ten", withLetterOf(9, 2), 0, 0, "");
        digested("nine", withLetterOf(8, 2), 0, 0, "");
        Check.same("the eleventh does not", withLetterOf(10, 1).digest(),
                withLetterOf(10, 2).digest());
    }

    private static void slotsAndTextOfTheDigest() {
        Check.about("Promise 27", "for each slot 1 if it has a snapshot, otherwise 0; the length of the"
                + " buffer and each of its character codes.");
        CorkPermits x = withHouses(1);
        x.keep(0);
        digested("the first slot", x, 1, 0, "");
        CorkPermits y = withHouses(1);
        y.keep(1);
        digested("the second slot", y, 0, 1, "");
        String most = "!~".repeat(30);
        type(y, most);
        digested("60 characters", y, 0, 1, most);
        CorkPermits z = new CorkPermits();
        type(z, most);
        z.clearBuffer();
        digested("none any more", z, 0, 0, "");
        z.append(126);
        digested("one", z, 0, 0, "~");
    }

    public static void main(String[] args) {
        kindsThatAreNone();
        propertiesOfAKind();
        placesThatAreNone();
        notToldAndNotAccounted();
        lettersThatAreNone();
        lettersThatWereLost();
        wrongLooksAtLetters();
        countsAndSettingsThatAreNone();
        countsOfLost();
        wrongLooksAhead();
        ticksAhead();
        aheadOfNothing();
        beyondTheLastTime();
        stillAtOnce();
        stillInTwoHundred();
        hiddenDownToNone();
        noneInNeed();
        severalInNeed();
        needOfEachKind();
        sharesOfNone();
        digestOfTheEdges();
        digestOfShares();
        lettersOfTheDigest();
        slotsAndTextOfTheDigest();
        Check.end();
    }
}

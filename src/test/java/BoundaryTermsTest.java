/** The boundary cases that "Terms" names: houses and bottles, letters, the steps of a tick, reasons. */
public final class BoundaryTermsTest extends Scenes {
    private BoundaryTermsTest() {
    }

    // ---- Cellar, houses

    private static void kindsAndTheirBottles() {
        Check.about("Terms", "There are 3 kinds, numbered from 0; the cellar has some bottles of each"
                + " kind, 0 to 20, at first 4, of which some are full.");
        CorkPermits x = withHouses(1);
        for (int kind = 0; kind < 3; kind++) {
            kinds("at first", x, kind, 4, 0, 0, 4, 0, 0, 0);
        }
        refused("kind 3", INDEX, Scenes::rich, c -> c.kind(3, 0));
        refused("kind -1", INDEX, Scenes::rich, c -> c.kind(-1, 0));
        x.bottles(2, 20);
        fillBottles(x, 0, 2, 20);
        kinds("all full", x, 2, 20, 20, 0, 0, 0, 20, 0);
        x.bottles(1, 0);
        kinds("no bottle", x, 1, 0, 0, 0, 0, 0, 0, 0);
    }

    private static void freeBottlesDownToNone() {
        Check.about("Terms", "The empty bottles of a kind that are free are its bottles, less the full"
                + " ones, less the corks of all houses that are out; (this is never below 0).");
        CorkPermits x = withHouses(2);
        lendMany(x, 0, 0, 2);
        x.lend(1, 0);
        x.pass(2);
        x.want(0, 0);
        x.pass(3);
        kinds("one full, two out", x, 0, 4, 1, 2, 1, 0, 1, 0);
        x.bottles(0, 3);
        Check.same("none free", 0, x.kind(0, 3));
        x.want(1, 0);
        x.pass(3);
        kinds("a cork out became a full bottle", x, 0, 3, 2, 1, 0, 0, 2, 0);
        x.set(1, 1);
        x.want(0, 0);
        x.pass(3);
        kinds("a lost pour is out still", x, 0, 3, 2, 1, 0, 0, 2, 0);
        x.set(1, 0);
        x.ask(0, 0);
        x.pass(4);
        kinds("it is free when it is known to be lost", x, 0, 3, 2, 0, 1, 0, 2, 1);
    }

    private static void corksDownToNone() {
        Check.about("Terms", "A house knows the greatest number of corks that was told to it, and how"
                + " many pours it made so far; its corks are the one less the other.");
        CorkPermits x = withCorks(1);
        Check.same("a cork", 1, x.houseOf(0, 0, 5));
        wantMany(x, 0, 0, 2);
        Check.same("one pour", 1, x.pass(60));
        Check.same("no cork", 0, x.houseOf(0, 0, 5));
        Check.same("it stays so", 0, x.pass(60));
        Check.same("no cork", 0, x.houseOf(0, 0, 5));
        Check.same("one waits", 1, x.houseOf(0, 0, 6));
    }

    // ---- Letters

    private static void leastAndMostTicksOfALetter() {
        Check.about("Terms, Letters", "it arrives setting 0 ticks after it was sent (at least 1)");
        CorkPermits x = withHouses(1);
        x.set(0, 1);
        x.lend(0, 0);
        letters("one tick", x, 0, 0, 0, 0, 1, 1);
        x.pass(1);
        counts("one tick", x, 1, 1, 0, 1, 0);
        Check.same("it arrived", 1, x.houseOf(0, 0, 3));
        CorkPermits y = withHouses(1);
        y.set(0, 9);
        y.lend(0, 0);
        letters("nine ticks", y, 0, 0, 0, 0, 1, 9);
        y.pass(8);
        Check.same("under way", 1, y.count(2));
        Check.same("not told", 0, y.houseOf(0, 0, 3));
        y.pass(1);
        Check.same("arrived", 0, y.count(2));
        Check.same("told", 1, y.houseOf(0, 0, 3));
    }

    /** 39 letters are under way, and two places of a cellar would pour. */
    private static CorkPermits roomForOne(int house, int kind, int otherHouse, int otherKind) {
        CorkPermits x = withHouses(2);
        x.lend(house, kind);
        x.lend(otherHouse, otherKind);
        x.pass(2);
        x.want(house, kind);
        x.want(otherHouse, otherKind);
        x.set(0, 9);
        askMany(x, 1, 1, 39);
        return x;
    }

    private static void fortyLetters() {
        Check.about("Terms, Letters", "At most 40 letters can be under way.");
        taken("the 40th question", 40, () -> withLetters(1, 39), c -> c.ask(0, 0));
        taken("the 40th, a cork", 1, () -> withLetters(1, 39), c -> c.lend(0, 0));
        refused("a 41st question", STATE, () -> withLetters(1, 40), c -> c.ask(0, 0));
        refused("a 41st, a cork", STATE, () -> withLetters(1, 40), c -> c.lend(0, 0));
        CorkPermits x = roomForOne(0, 0, 1, 0);
        Check.same("the 40th, a pour", 1, x.pass(1));
        Check.same("40", 40, x.count(2));
        Check.same("no 41st", 0, x.pass(1));
        Check.same("40 still", 40, x.count(2));
        CorkPermits y = withLetters(1, 39);
        y.set(2, 9);
        y.pass(1);
        counts("the 40th, a cork by itself", y, 1, 1, 40, 40, 0);
        y.pass(1);
        counts("no 41st", y, 2, 1, 40, 40, 0);
    }

    private static void lastOfFortyComesFirst() {
        Check.about("Terms, Letters", "At most 40 letters can be under way.");
        CorkPermits x = withHouses(1);
        x.set(0, 9);
        for (int letter = 0; letter < 39; letter++) {
            x.ask(0, letter % 3);
        }
        x.set(0, 1);
        x.lend(0, 0);
        letters("the 40th", x, 39, 0, 0, 0, 1, 1);
        x.pass(1);
        counts("it came", x, 1, 1, 39, 40, 0);
        Check.same("it told of the cork", 1, x.houseOf(0, 0, 3));
        for (int rank = 0; rank < 39; rank++) {
            letters("the others", x, rank, 2, 0, rank % 3, 0, 9);
        }
        letters("no other", x, 39, -1, -1, -1, -1, -1);
    }

    private static void answersOfFortyQuestions() {
        Check.about("Terms, Letters", "The house sends an answer then.");
        CorkPermits x = withLetters(1, 40);
        x.pass(8);
        counts("40 questions", x, 8, 1, 40, 40, 0);
        x.pass(1);
        counts("40 answers", x, 9, 1, 40, 80, 0);
        letters("the first", x, 0, 3, 0, 2, 0, 18);
        letters("the last", x, 39, 3, 0, 2, 0, 18);
        x.pass(9);
        counts("no letter", x, 18, 1, 0, 80, 0);
        Check.same("there is room again", 1, x.ask(0, 2));
    }

    private static void lostLetters() {
        Check.about("Terms, Letters", "Of all letters that are sent, each one whose number (from 1 up)"
                + " has no rest by setting 1 is lost: it never arrives");
        CorkPermits x = withHouses(1);
        x.set(1, 1);
        Check.same("each is lost", 0, x.ask(0, 0));
        Check.same("each is lost", 0, x.ask(0, 0));
        counts("each is lost", x, 0, 1, 0, 2, 2);
        x.set(1, 2);
        Check.same("number 3", 1, x.ask(0, 0));
        Check.same("number 4 is lost", 1, x.ask(0, 0));
        x.set(1, 0);
        Check.same("number 5", 2, x.ask(0, 0));
        x.set(1, 3);
        Check.same("number 6 is lost", 2, x.ask(0, 0));
        x.undo();
        Check.same("number 6 again", 2, x.ask(0, 0));
        Check.same("number 7", 3, x.ask(0, 0));
        counts("lost: 1, 2, 4 and 6", x, 0, 1, 3, 7, 4);
        x.set(1, 0);
        x.pass(4);
        counts("three are answered", x, 4, 1, 0, 10, 4);
    }

    private static void eachNinetyNinthLetter() {
        Check.about("Terms, Letters", "Of all letters that are sent, each one whose number (from 1 up)"
                + " has no rest by setting 1 is lost: it never arrives");
        CorkPermits x = withLetters(1, 40);
        x.set(1, 99);
        x.pass(18);
        askMany(x, 0, 0, 18);
        counts("98 letters", x, 18, 1, 18, 98, 0);
        Check.same("number 99 is lost", 18, x.ask(0, 0));
        Check.same("number 100", 19, x.ask(0, 0));
        counts("100 letters", x, 18, 1, 19, 100, 1);
        x.pass(18);
        counts("19 answers came", x, 36, 1, 0, 119, 1);
        askMany(x, 0, 0, 40);
        x.pass(9);
        counts("of 40 answers number 198 is lost", x, 45, 1, 39, 199, 2);
    }

    private static void noLetterIsLost() {
        Check.about("Terms, Letters", "(with setting 1 as 0 none is)");
        CorkPermits x = withLetters(1, 40);
        x.pass(18);
        counts("40 and their answers", x, 18, 1, 0, 80, 0);
    }

    private static void corksThatTellNoMore() {
        Check.about("Terms, Letters", "When it arrives, the number that was told to the house becomes"
                + " this, if it is greater.");
        CorkPermits x = withHouses(1);
        x.set(0, 9);
        x.lend(0, 0);
        x.set(0, 1);
        x.lend(0, 0);
        x.pass(1);
        Check.same("two at once", 2, x.houseOf(0, 0, 3));
        x.pass(8);
        Check.same("the late one", 2, x.houseOf(0, 0, 3));
        Check.same("it arrived", 0, x.count(2));
        CorkPermits y = withHouses(1);
        y.set(1, 1);
        lendMany(y, 0, 0, 2);
        y.set(1, 0);
        y.lend(0, 0);
        y.pass(1);
        Check.same("not yet", 0, y.houseOf(0, 0, 3));
        y.pass(1);
        Check.same("the third tells of all", 3, y.houseOf(0, 0, 3));
    }

    private static void poursThatTellMore() {
        Check.about("Terms, Letters", "When it arrives with the number n, and n is greater than those"
                + " accounted for: the pours between were lost (n less those accounted for, less 1),"
                + " this one arrived: a bottle becomes full; those accounted for are n then.");
        CorkPermits x = withCorks(1);
        x.want(0, 0);
        x.pass(2);
        kinds("under way", x, 0, 20, 0, 1, 19, 0, 0, 0);
        x.pass(1);
        kinds("greater by 1", x, 0, 20, 1, 0, 19, 0, 1, 0);
        Check.same("accounted for", 1, x.houseOf(0, 0, 1));
        CorkPermits y = withCorks(3);
        y.set(1, 1);
        wantMany(y, 0, 0, 2);
        y.pass(2);
        y.set(1, 0);
        y.want(0, 0);
        y.pass(3);
        kinds("greater by 3", y, 0, 20, 1, 0, 19, 0, 1, 2);
        Check.same("accounted for", 3, y.houseOf(0, 0, 1));
    }

    private static void poursThatTellNoMore() {
        Check.about("Terms, Letters", "Otherwise nothing happens.");
        CorkPermits x = withCorks(1);
        x.want(0, 0);
        x.set(0, 9);
        x.pass(1);
        x.set(0, 1);
        x.ask(0, 0);
        x.pass(2);
        kinds("an answer came first", x, 0, 20, 0, 0, 20, 0, 0, 1);
        x.pass(6);
        Check.same("the pour is under way", 1, x.count(2));
        x.pass(1);
        kinds("as many as are accounted for", x, 0, 20, 0, 0, 20, 0, 0, 1);
        counts("it came to nothing", x, 12, 1, 0, 4, 0, 1, 0, 1, 0, 0, 0);
        CorkPermits y = withCorks(2);
        y.want(0, 0);
        y.set(0, 9);
        y.pass(1);
        y.set(0, 1);
        y.want(0, 0);
        y.pass(2);
        kinds("the second came first", y, 0, 20, 1, 0, 19, 0, 1, 1);
        y.pass(7);
        kinds("fewer than are accounted for", y, 0, 20, 1, 0, 19, 0, 1, 1);
        Check.same("accounted for", 2, y.houseOf(0, 0, 1));
        Check.same("no letter", 0, y.count(2));
    }

    private static void questionsThatTellNoMore() {
        Check.about("Terms, Letters",
                "a question: to a house, with the number of all corks lent to it so far: as a cork.");
        CorkPermits x = withHouses(1);
        x.ask(0, 1);
        letters("nothing lent", x, 0, 2, 0, 1, 0, 2);
        x.pass(2);
        letters("nothing poured", x, 0, 3, 0, 1, 0, 4);
        Check.same("nothing told", 0, x.houseOf(0, 1, 3));
        CorkPermits y = withHouses(1);
        y.set(1, 1);
        lendMany(y, 0, 0, 2);
        y.set(1, 0);
        y.ask(0, 0);
        letters("two lent", y, 0, 2, 0, 0, 2, 2);
        y.pass(2);
        Check.same("told by the question", 2, y.houseOf(0, 0, 3));
        CorkPermits z = withHouses(1);
        z.lend(0, 0);
        z.set(0, 9);
        z.ask(0, 0);
        z.set(0, 1);
        z.lend(0, 0);
        z.pass(8);
        Check.same("told by the second cork", 2, z.houseOf(0, 0, 3));
        z.pass(1);
        Check.same("the late question", 2, z.houseOf(0, 0, 3));
        letters("it is answered", z, 0, 3, 0, 0, 0, 10);
    }

    private static void answersThatTellMoreAndNoMore() {
        Check.about("Terms, Letters", "if this is greater than those accounted for, the pours between"
                + " were lost (n less those accounted for), and those accounted for are n.");
        CorkPermits x = withCorks(2);
        x.set(1, 1);
        wantMany(x, 0, 0, 2);
        x.pass(2);
        x.set(1, 0);
        x.ask(0, 0);
        x.pass(3);
        kinds("not yet", x, 0, 20, 0, 2, 18, 0, 0, 0);
        x.pass(1);
        kinds("greater by 2", x, 0, 20, 0, 0, 20, 0, 0, 2);
        CorkPermits y = withCorks(1);
        y.want(0, 0);
        y.pass(3);
        y.ask(0, 0);
        y.pass(4);
        kinds("as many", y, 0, 20, 1, 0, 19, 0, 1, 0);
        Check.same("accounted for", 1, y.houseOf(0, 0, 1));
        CorkPermits z = withCorks(2);
        z.want(0, 0);
        z.pass(3);
        z.set(0, 1);
        z.ask(0, 0);
        z.set(0, 9);
        z.pass(1);
        letters("a slow answer", z, 0, 3, 0, 0, 1, 15);
        z.set(0, 1);
        z.want(0, 0);
        z.pass(2);
        kinds("the second pour came", z, 0, 20, 2, 0, 18, 0, 2, 0);
        z.pass(7);
        kinds("fewer", z, 0, 20, 2, 0, 18, 0, 2, 0);
        Check.same("accounted for", 2, z.houseOf(0, 0, 1));
        Check.same("no letter", 0, z.count(2));
    }

    // ---- A tick

    private static void timeAtFirst() {
        Check.about("Terms, A tick", "The time is at first 0.");
        CorkPermits x = new CorkPermits();
        Check.same("the time", 0, x.count(0));
        x.pass(1);
        Check.same("the time", 1, x.count(0));
    }

    private static void lettersOfOneTime() {
        Check.about("Terms, A tick",
                "Letters that arrive at this time do so, in the order in which they were sent.");
        CorkPermits x = withCorks(1);
        x.want(0, 0);
        x.set(0, 9);
        x.pass(1);
        x.set(0, 4);
        x.ask(0, 0);
        x.set(0, 5);
        x.pass(4);
        letters("the pour", x, 0, 1, 0, 0, 1, 12);
        letters("the answer", x, 1, 3, 0, 0, 1, 12);
        x.pass(5);
        kinds("the pour is first", x, 0, 20, 1, 0, 19, 0, 1, 0);
        CorkPermits y = withCorks(2);
        y.want(0, 0);
        y.set(0, 9);
        y.pass(8);
        y.want(0, 0);
        y.set(0, 1);
        y.pass(1);
        letters("the first pour", y, 0, 1, 0, 0, 1, 12);
        letters("the second pour", y, 1, 1, 0, 0, 2, 12);
        y.pass(1);
        kinds("none is lost", y, 0, 20, 2, 0, 18, 0, 2, 0);
    }

    private static void lastRoomForAPour() {
        Check.about("Terms, A tick", "2. Houses pour: by ascending houses, then kinds");
        CorkPermits x = roomForOne(1, 0, 0, 2);
        Check.same("room for one", 1, x.pass(1));
        numbers("the lower house", x, 0, 2, 1, 0, 1, 1, 1, 0, 0, 1, 0, 1);
        numbers("the higher house", x, 1, 0, 1, 0, 1, 1, 0, 1, 1, 4, 0, 0);
        CorkPermits y = roomForOne(1, 1, 1, 0);
        Check.same("room for one", 1, y.pass(1));
        Check.same("the lower kind", 1, y.houseOf(1, 0, 4));
        Check.same("the higher kind", 0, y.houseOf(1, 1, 4));
        CorkPermits z = withHouses(4);
        for (int house = 3; house >= 0; house--) {
            for (int kind = 2; kind >= 0; kind--) {
                z.lend(house, kind);
                z.want(house, kind);
            }
        }
        Check.same("all pour", 12, z.pass(2));
        for (int rank = 0; rank < 12; rank++) {
            letters("in this order", z, rank, 1, rank / 3, rank % 3, 1, 4);
        }
    }

    private static void whatAPourNeeds() {
        Check.about("Terms, A tick", "if a pour waits, the house has a cork, and a letter more can be"
                + " under way, one pour is made: fewer wait by 1, and a letter is sent.");
        CorkPermits x = withCorks(10);
        Check.same("no pour waits", 0, x.pass(1));
        wantMany(x, 0, 0, 9);
        Check.same("one is made", 1, x.pass(1));
        numbers("one is made", x, 0, 0, 10, 0, 10, 10, 1, 9, 8, 0, 0, 1);
        counts("a letter is sent", x, 4, 1, 1, 11, 0, 1);
        Check.same("all that wait", 8, x.pass(9));
        Check.same("a cork is left", 1, x.houseOf(0, 0, 5));
        CorkPermits y = withCorks(1);
        wantMany(y, 0, 0, 2);
        Check.same("as many as corks", 1, y.pass(9));
        Check.same("one waits", 1, y.houseOf(0, 0, 6));
        CorkPermits z = withCorks(1);
        z.want(0, 0);
        z.set(0, 9);
        askMany(z, 0, 0, 40);
        Check.same("no room", 0, z.pass(1));
        Check.same("it waits", 1, z.houseOf(0, 0, 6));
    }

    private static void lendingDownToNone() {
        Check.about("Terms, A tick", "3. With setting 2 above 0, the cellar lends: by ascending houses,"
                + " then kinds");
        CorkPermits x = withHouses(2);
        x.pass(60);
        counts("setting 2 is 0", x, 60, 2, 0, 0, 0);
        x.set(2, 1);
        x.pass(1);
        for (int rank = 0; rank < 6; rank++) {
            letters("in this order", x, rank, 0, rank / 3, rank % 3, 1, 63);
        }
        x.pass(9);
        counts("one of each", x, 70, 2, 0, 6, 0, 0, 0, 0, 0, 0, 6);
    }

    private static void whatALendingNeeds() {
        Check.about("Terms, A tick", "if fewer than setting 2 corks are out, an empty bottle is free,"
                + " and a letter more can be under way, one cork is lent, and a letter is sent.");
        CorkPermits x = withHouses(1);
        x.bottles(0, 20);
        lendMany(x, 0, 0, 3);
        x.set(2, 2);
        x.pass(2);
        Check.same("more are out", 3, x.houseOf(0, 0, 2));
        Check.same("as many are out", 2, x.houseOf(0, 1, 2));
        x.set(2, 3);
        x.pass(1);
        Check.same("as many are out", 3, x.houseOf(0, 0, 2));
        x.set(2, 4);
        x.pass(1);
        Check.same("fewer were out", 4, x.houseOf(0, 0, 2));
        x.set(2, 9);
        x.pass(1);
        Check.same("one in a tick", 5, x.houseOf(0, 0, 2));
        x.pass(30);
        Check.same("nine", 9, x.houseOf(0, 0, 2));
        Check.same("all bottles", 4, x.houseOf(0, 1, 2));
        CorkPermits y = withHouses(2);
        y.bottles(0, 1);
        y.bottles(1, 0);
        y.set(2, 9);
        y.pass(9);
        Check.same("the last bottle", 1, y.houseOf(0, 0, 2));
        Check.same("none for the other", 0, y.houseOf(1, 0, 2));
        Check.same("no bottle", 0, y.kind(1, 2));
        CorkPermits z = withLetters(2, 40);
        z.set(2, 9);
        z.pass(1);
        Check.same("no room", 0, z.count(10));
        z.pass(8);
        Check.same("answers take the room", 0, z.count(10));
        z.pass(9);
        Check.same("room for all", 6, z.count(10));
    }

    private static void stepsInTheirOrder() {
        Check.about("Terms, A tick", "When a tick goes by, the following happens:");
        CorkPermits x = withHouses(1);
        x.set(0, 1);
        x.lend(0, 0);
        x.want(0, 0);
        x.set(0, 9);
        askMany(x, 0, 1, 39);
        Check.same("40 letters", 40, x.count(2));
        Check.same("the cork that comes gives its room to the pour", 1, x.pass(1));
        Check.same("40 letters", 40, x.count(2));
        CorkPermits y = withCorks(1);
        y.want(0, 0);
        y.set(0, 9);
        askMany(y, 0, 2, 39);
        y.set(2, 9);
        Check.same("the last room is for the pour", 1, y.pass(1));
        Check.same("not for a cork", 1, y.count(10));
    }

    private static void accountedBeforeLent() {
        Check.about("Terms, A tick", "When a tick goes by, the following happens:");
        CorkPermits x = withHouses(1);
        x.bottles(0, 1);
        x.bottles(1, 0);
        x.bottles(2, 0);
        x.lend(0, 0);
        x.pass(2);
        x.set(1, 1);
        x.want(0, 0);
        x.pass(1);
        x.set(1, 0);
        x.ask(0, 0);
        x.set(2, 1);
        x.pass(3);
        numbers("no bottle is free", x, 0, 0, 1, 0, 1, 1, 1, 0, 0, 1, 0, 1);
        x.pass(1);
        numbers("the answer frees it", x, 0, 0, 2, 1, 1, 1, 1, 0, 0, 1, 1, 0);
    }

    // ---- Reasons

    private static void reason(String when, int due, CorkPermits x, int kind) {
        Check.same(when, due, x.houseOf(0, kind, 7));
    }

    private static void noPourWaits() {
        Check.about("Terms, Reasons", "1: no pour waits");
        reason("no cork", 1, withHouses(1), 0);
        CorkPermits x = withCorks(1);
        reason("a cork is there", 1, x, 0);
        x.set(0, 9);
        askMany(x, 0, 0, 40);
        reason("40 letters", 1, x, 0);
        x.want(0, 0);
        reason("one waits", 4, x, 0);
        CorkPermits y = withHouses(1);
        y.lend(0, 0);
        reason("one is out", 1, y, 0);
        y.want(0, 0);
        reason("one waits", 3, y, 0);
    }

    private static void noCorkAndNoneOut() {
        Check.about("Terms, Reasons", "2: it has no cork, and none is out");
        CorkPermits x = withHouses(2);
        x.want(0, 0);
        reason("none lent", 2, x, 0);
        x.lend(1, 0);
        x.lend(0, 1);
        reason("others have some", 2, x, 0);
        fillWithLetters(x);
        reason("40 letters", 2, x, 0);
        CorkPermits y = withCorks(1);
        wantMany(y, 0, 0, 2);
        y.pass(2);
        reason("the account is under way", 3, y, 0);
        y.pass(1);
        reason("all accounted for", 2, y, 0);
    }

    private static void noCorkButSomeOut() {
        Check.about("Terms, Reasons",
                "3: it has no cork, but some are out (with letters, or accounts, under way or lost)");
        CorkPermits x = withHouses(1);
        x.want(0, 0);
        x.lend(0, 0);
        reason("the cork is under way", 3, x, 0);
        fillWithLetters(x);
        reason("40 letters", 3, x, 0);
        CorkPermits y = withHouses(1);
        y.set(1, 1);
        y.want(0, 0);
        y.lend(0, 0);
        reason("the cork is lost", 3, y, 0);
        y.pass(60);
        reason("the cork is lost", 3, y, 0);
        CorkPermits z = withCorks(1);
        wantMany(z, 0, 0, 2);
        z.set(1, 1);
        z.pass(60);
        reason("the account is lost", 3, z, 0);
    }

    private static void fortyLettersOrItPours() {
        Check.about("Terms, Reasons", "4: there are 40 letters under way; 0 if it pours.");
        CorkPermits x = withCorks(1);
        x.want(0, 0);
        reason("no letter", 0, x, 0);
        x.set(0, 9);
        askMany(x, 0, 1, 39);
        reason("39 letters", 0, x, 0);
        Check.same("it pours", 1, x.ifPassed(1, 0));
        x.ask(0, 1);
        reason("40 letters", 4, x, 0);
        Check.same("it does not", 0, x.ifPassed(1, 0));
        x.set(1, 1);
        x.pass(9);
        reason("the answers are lost", 1, x, 0);
        Check.same("it poured", 1, x.houseOf(0, 0, 4));
    }

    public static void main(String[] args) {
        kindsAndTheirBottles();
        freeBottlesDownToNone();
        corksDownToNone();
        leastAndMostTicksOfALetter();
        fortyLetters();
        lastOfFortyComesFirst();
        answersOfFortyQuestions();
        lostLetters();
        eachNinetyNinthLetter();
        noLetterIsLost();
        corksThatTellNoMore();
        poursThatTellMore();
        poursThatTellNoMore();
        questionsThatTellNoMore();
        answersThatTellMoreAndNoMore();
        timeAtFirst();
        lettersOfOneTime();
        lastRoomForAPour();
        whatAPourNeeds();
        lendingDownToNone();
        whatALendingNeeds();
        stepsInTheirOrder();
        accountedBeforeLent();
        noPourWaits();
        noCorkAndNoneOut();
        noCorkButSomeOut();
        fortyLettersOrItPours();
        Check.end();
    }
}

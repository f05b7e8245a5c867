/**
 * A cellar that lends corks to houses, which pour by them; corks and pours are told by letters that
 * may be lost, and are counted on, so that a later letter tells what an earlier one would have told.
 */
public final class CorkPermits {
    public static final int NONE = -1;

    private static final int KINDS = 3;
    private static final int MOST_HOUSES = 4;
    /** A place is a house together with a kind: the house times KINDS, plus the kind. */
    private static final int PLACES = MOST_HOUSES * KINDS;

    private static final int FIRST_BOTTLES = 4;
    private static final int MOST_BOTTLES = 20;
    private static final int MOST_WAITING = 9;
    private static final int MOST_LETTERS = 40;
    private static final int MOST_TICKS = 60;
    private static final int LAST_TIME = 9999;
    private static final int STILL_WITHIN = 200;

    private static final int CORK = 0;
    private static final int POUR = 1;
    private static final int QUESTION = 2;
    private static final int ANSWER = 3;

    private static final int SETTINGS = 3;
    private static final int DELAY = 0;
    private static final int LOSS = 1;
    private static final int LENDING = 2;
    private static final int FIRST_DELAY = 2;
    private static final int[] LEAST_VALUE = {1, 0, 0};
    private static final int[] GREATEST_VALUE = {9, 99, 9};

    private static final int SLOTS = 2;
    private static final int MOST_SAVED = 6;

    private static final int MOST_SIGNS = 60;
    private static final int LEAST_CODE = 33;
    private static final int GREATEST_CODE = 126;

    private static final int COUNTS = 12;
    private static final int KIND_NUMBERS = 7;
    private static final int PLACE_NUMBERS = 10;
    private static final int LETTER_NUMBERS = 5;
    private static final int FORECASTS = 4;

    private static final long DIGEST_START = 3253L;
    private static final int DIGEST_LETTERS = 10;
    private static final int DIGEST_TICKS = 12;

    private static final int FRACTION_BITS = 52;
    private static final long FRACTION_UNITS = 1L << FRACTION_BITS;
    private static final int EXPONENT_OF_ONE = 1023;

    private final Cellar now;
    /** Ticks are tried out here; made once, as a run of calls has little room for objects. */
    private final Cellar ahead;
    private final Cellar[] slots;
    private final boolean[] slotTaken;
    private final History history;
    private final DayText text;

    public CorkPermits() {
        now = new Cellar();
        ahead = new Cellar();
        slots = new Cellar[SLOTS];
        for (int slot = 0; slot < SLOTS; slot++) {
            slots[slot] = new Cellar();
        }
        slotTaken = new boolean[SLOTS];
        history = new History();
        text = new DayText();
    }

    // ---- cellar, houses

    public int house() throws IllegalStateException {
        if (now.houses >= MOST_HOUSES) {
            throw new IllegalStateException();
        }
        history.push(now);
        now.houses++;
        return now.houses - 1;
    }

    public int bottles(int kind, int many)
            throws IndexOutOfBoundsException, IllegalArgumentException, IllegalStateException {
        requireKind(kind);
        if (many < 0 || many > MOST_BOTTLES) {
            throw new IllegalArgumentException();
        }
        if (many < now.full[kind] + now.outOfKind(kind)) {
            throw new IllegalStateException();
        }
        history.push(now);
        int before = now.bottles[kind];
        now.bottles[kind] = many;
        return before;
    }

    public int lend(int house, int kind) throws IndexOutOfBoundsException, IllegalStateException {
        requirePlace(house, kind);
        if (!now.canLend(kind)) {
            throw new IllegalStateException();
        }
        history.push(now);
        now.lendCork(placeOf(house, kind));
        return now.out(placeOf(house, kind));
    }

    public int ask(int house, int kind) throws IndexOutOfBoundsException, IllegalStateException {
        requirePlace(house, kind);
        if (!now.post.hasRoom()) {
            throw new IllegalStateException();
        }
        history.push(now);
        now.sendQuestion(placeOf(house, kind));
        return now.post.underWay;
    }

    public int want(int house, int kind) throws IndexOutOfBoundsException, IllegalStateException {
        requirePlace(house, kind);
        if (!now.canWait(placeOf(house, kind))) {
            throw new IllegalStateException();
        }
        history.push(now);
        now.waiting[placeOf(house, kind)]++;
        return now.waiting[placeOf(house, kind)];
    }

    public int drink(int kind) throws IndexOutOfBoundsException, IllegalStateException {
        requireKind(kind);
        if (now.full[kind] <= 0) {
            throw new IllegalStateException();
        }
        history.push(now);
        now.emptyBottle(kind);
        return now.full[kind];
    }

    public int pass(int ticks) throws IllegalArgumentException, IllegalStateException {
        requireTicks(ticks);
        if (now.time + ticks > LAST_TIME) {
            throw new IllegalStateException();
        }
        history.push(now);
        int before = total(now.poured);
        now.letGoBy(ticks);
        return total(now.poured) - before;
    }

    public int set(int setting, int value) throws IndexOutOfBoundsException, IllegalArgumentException {
        requireSetting(setting);
        if (value < LEAST_VALUE[setting] || value > GREATEST_VALUE[setting]) {
            throw new IllegalArgumentException();
        }
        history.push(now);
        int before = now.settings[setting];
        now.settings[setting] = value;
        return before;
    }

    // ---- texts, snapshots

    public int append(int code) throws IllegalArgumentException, IllegalStateException {
        if (code < LEAST_CODE || code > GREATEST_CODE) {
            throw new IllegalArgumentException();
        }
        if (text.length >= MOST_SIGNS) {
            throw new IllegalStateException();
        }
        text.codes[text.length] = code;
        text.length++;
        return text.length;
    }

    public int clearBuffer() {
        int before = text.length;
        text.length = 0;
        return before;
    }

    public int firstError() {
        return text.firstWrongSign();
    }

    public int run() throws IllegalArgumentException {
        if (!text.isDay()) {
            throw new IllegalArgumentException();
        }
        history.push(now);
        int done = 0;
        for (int at = 0; at < text.length && doOrder(at); at += text.orderLength(at)) {
            done++;
        }
        text.length = 0;
        return done;
    }

    public int keep(int slot) throws IllegalArgumentException {
        requireSlot(slot);
        slots[slot].copyFrom(now);
        slotTaken[slot] = true;
        return now.time;
    }

    public int goBack(int slot) throws IllegalArgumentException, IllegalStateException {
        requireSlot(slot);
        if (!slotTaken[slot]) {
            throw new IllegalStateException();
        }
        history.push(now);
        now.copyFrom(slots[slot]);
        return now.time;
    }

    public int undo() throws IllegalStateException {
        if (history.size <= 0) {
            throw new IllegalStateException();
        }
        history.popInto(now);
        return history.size;
    }

    // ---- looks; nothing is changed

    public int kind(int kind, int what) throws IndexOutOfBoundsException, IllegalArgumentException {
        requireKind(kind);
        requireWhat(what, KIND_NUMBERS);
        return now.kindNumber(kind, what);
    }

    public int houseOf(int house, int kind, int what)
            throws IndexOutOfBoundsException, IllegalArgumentException {
        requirePlace(house, kind);
        requireWhat(what, PLACE_NUMBERS);
        return now.placeNumber(placeOf(house, kind), what);
    }

    public int letter(int rank, int what) throws IllegalArgumentException {
        if (rank < 0) {
            throw new IllegalArgumentException();
        }
        requireWhat(what, LETTER_NUMBERS);
        return now.post.letterNumber(rank, what);
    }

    public int count(int what) throws IllegalArgumentException {
        requireWhat(what, COUNTS);
        return countNumber(what);
    }

    public int setting(int setting) throws IndexOutOfBoundsException {
        requireSetting(setting);
        return now.settings[setting];
    }

    // ---- what would be; nothing is changed, and the limit of the time does not matter

    public int ifPassed(int ticks, int what) throws IllegalArgumentException {
        requireTicks(ticks);
        requireWhat(what, FORECASTS);
        lookAhead(ticks);
        return forecastNumber(what);
    }

    public int stillIn() {
        ahead.copyFrom(now);
        for (int ticks = 0; ticks <= STILL_WITHIN; ticks++) {
            if (ahead.post.underWay == 0) {
                return ticks;
            }
            ahead.letGoBy(1);
        }
        return NONE;
    }

    public int hidden() {
        return total(now.poured) - total(now.accounted);
    }

    public int neediest() {
        int found = NONE;
        int most = 0;
        for (int house = 0; house < now.houses && house < MOST_HOUSES; house++) {
            int need = now.needOf(house);
            if (need > most) {
                most = need;
                found = house;
            }
        }
        return found;
    }

    public double arrivedShare() {
        int accounted = total(now.accounted);
        if (accounted <= 0) {
            return 1.0;
        }
        return (double) total(now.arrived) / (double) accounted;
    }

    public long digest() {
        long hash = DIGEST_START;
        hash = mixCounts(hash);
        hash = mixKinds(hash);
        hash = mixHouses(hash);
        hash = mixLetters(hash);
        hash = mixForecasts(hash);
        hash = mix(hash, shareBits(arrivedShare()));
        hash = mixSlots(hash);
        return mixText(hash);
    }

    // ---- what the calls ask of their arguments

    private static void requireKind(int kind) throws IndexOutOfBoundsException {
        if (kind < 0 || kind >= KINDS) {
            throw new IndexOutOfBoundsException();
        }
    }

    private void requirePlace(int house, int kind) throws IndexOutOfBoundsException {
        if (!isPlace(house, kind)) {
            throw new IndexOutOfBoundsException();
        }
    }

    private static void requireSetting(int setting) throws IndexOutOfBoundsException {
        if (setting < 0 || setting >= SETTINGS) {
            throw new IndexOutOfBoundsException();
        }
    }

    private static void requireTicks(int ticks) throws IllegalArgumentException {
        if (ticks < 1 || ticks > MOST_TICKS) {
            throw new IllegalArgumentException();
        }
    }

    private static void requireSlot(int slot) throws IllegalArgumentException {
        if (slot < 0 || slot >= SLOTS) {
            throw new IllegalArgumentException();
        }
    }

    private static void requireWhat(int what, int choices) throws IllegalArgumentException {
        if (what < 0 || what >= choices) {
            throw new IllegalArgumentException();
        }
    }

    private boolean isPlace(int house, int kind) {
        return house >= 0 && house < now.houses && house < MOST_HOUSES && kind >= 0 && kind < KINDS;
    }

    private static int placeOf(int house, int kind) {
        return house * KINDS + kind;
    }

    // ---- orders of a text

    /** Answers false, and changes nothing, where the order's method would throw. */
    private boolean doOrder(int at) {
        int order = text.sign(at);
        int first = text.digit(at + 1);
        if (order == 't') {
            return passInText(first);
        }
        if (order == 'd') {
            return drinkInText(first);
        }
        int kind = text.digit(at + 2);
        if (!isPlace(first, kind)) {
            return false;
        }
        switch (order) {
            case 'l':
                return lendInText(placeOf(first, kind), kind);
            case 'q':
                return askInText(placeOf(first, kind));
            case 'w':
                return wantInText(placeOf(first, kind));
            default:
                return false;
        }
    }

    private boolean passInText(int ticks) {
        if (ticks < 1 || now.time + ticks > LAST_TIME) {
            return false;
        }
        now.letGoBy(ticks);
        return true;
    }

    private boolean drinkInText(int kind) {
        if (kind < 0 || kind >= KINDS || now.full[kind] <= 0) {
            return false;
        }
        now.emptyBottle(kind);
        return true;
    }

    private boolean lendInText(int place, int kind) {
        if (!now.canLend(kind)) {
            return false;
        }
        now.lendCork(place);
        return true;
    }

    private boolean askInText(int place) {
        if (!now.post.hasRoom()) {
            return false;
        }
        now.sendQuestion(place);
        return true;
    }

    private boolean wantInText(int place) {
        if (!now.canWait(place)) {
            return false;
        }
        now.waiting[place]++;
        return true;
    }

    // ---- numbers

    private int countNumber(int what) {
        switch (what) {
            case 0:
                return now.time;
            case 1:
                return now.houses;
            case 2:
                return now.post.underWay;
            case 3:
                return now.post.sent;
            case 4:
                return now.post.lost;
            case 5:
                return total(now.poured);
            case 6:
                return total(now.arrived);
            case 7:
                return total(now.knownLost);
            case 8:
                return total(now.waiting);
            case 9:
                return total(now.full);
            case 10:
                return total(now.lent) - total(now.accounted);
            default:
                return history.size;
        }
    }

    private void lookAhead(int ticks) {
        ahead.copyFrom(now);
        ahead.letGoBy(ticks);
    }

    /** Compares the cellar that was looked ahead to with the one that is. */
    private int forecastNumber(int what) {
        switch (what) {
            case 0:
                return total(ahead.poured) - total(now.poured);
            case 1:
                return total(ahead.arrived) - total(now.arrived);
            case 2:
                return total(ahead.waiting);
            default:
                return ahead.post.lost - now.post.lost;
        }
    }

    private static int total(int[] numbers) {
        int sum = 0;
        for (int number : numbers) {
            sum += number;
        }
        return sum;
    }

    // ---- digest

    private static long mix(long hash, long value) {
        return 31L * hash + value;
    }

    private long mixCounts(long start) {
        long hash = start;
        for (int what = 0; what < COUNTS; what++) {
            hash = mix(hash, countNumber(what));
        }
        for (int setting = 0; setting < SETTINGS; setting++) {
            hash = mix(hash, now.settings[setting]);
        }
        return hash;
    }

    private long mixKinds(long start) {
        long hash = start;
        for (int kind = 0; kind < KINDS; kind++) {
            for (int what = 0; what < KIND_NUMBERS; what++) {
                hash = mix(hash, now.kindNumber(kind, what));
            }
        }
        return hash;
    }

    private long mixHouses(long start) {
        long hash = start;
        for (int place = 0; place < now.houses * KINDS && place < PLACES; place++) {
            for (int what = 0; what < PLACE_NUMBERS; what++) {
                hash = mix(hash, now.placeNumber(place, what));
            }
        }
        return hash;
    }

    private long mixLetters(long start) {
        long hash = start;
        for (int rank = 0; rank < DIGEST_LETTERS; rank++) {
            for (int what = 0; what < LETTER_NUMBERS; what++) {
                hash = mix(hash, now.post.letterNumber(rank, what));
            }
        }
        return hash;
    }

    private long mixForecasts(long start) {
        long hash = start;
        lookAhead(DIGEST_TICKS);
        for (int what = 0; what < FORECASTS; what++) {
            hash = mix(hash, forecastNumber(what));
        }
        hash = mix(hash, stillIn());
        hash = mix(hash, hidden());
        return mix(hash, neediest());
    }

    private long mixSlots(long start) {
        long hash = start;
        for (int slot = 0; slot < SLOTS; slot++) {
            hash = mix(hash, slotTaken[slot] ? 1L : 0L);
        }
        return hash;
    }

    private long mixText(long start) {
        long hash = mix(start, text.length);
        for (int at = 0; at < text.length && at < MOST_SIGNS; at++) {
            hash = mix(hash, text.codes[at]);
        }
        return hash;
    }

    /**
     * The bits of a share from 0 to 1, worked out by hand, as the Java that the program keeps to has
     * no library call for them. Doubling, and taking 1 away from a number from 1 to 2, are exact.
     */
    private static long shareBits(double share) {
        if (share <= 0.0) {
            return 0L;
        }
        double scaled = share;
        long exponent = EXPONENT_OF_ONE;
        for (int step = 1; step < EXPONENT_OF_ONE && scaled < 1.0; step++) {
            scaled = scaled * 2.0;
            exponent--;
        }
        long fraction = (long) ((scaled - 1.0) * (double) FRACTION_UNITS);
        return (exponent << FRACTION_BITS) + fraction;
    }

    /** The letters under way, in the order in which they were sent, and how many were sent and lost. */
    private static final class Post {
        int sent;
        int lost;
        int underWay;
        final int[] sorts = new int[MOST_LETTERS];
        final int[] places = new int[MOST_LETTERS];
        final int[] numbers = new int[MOST_LETTERS];
        final int[] arrivals = new int[MOST_LETTERS];

        boolean hasRoom() {
            return underWay < MOST_LETTERS;
        }

        void send(int sort, int place, int number, int arrival, int loss) {
            sent++;
            if (loss > 0 && sent % loss == 0) {
                lost++;
            } else if (underWay < MOST_LETTERS) {
                sorts[underWay] = sort;
                places[underWay] = place;
                numbers[underWay] = number;
                arrivals[underWay] = arrival;
                underWay++;
            }
        }

        void remove(int rank) {
            if (rank < 0 || rank >= underWay) {
                return;
            }
            int behind = underWay - rank - 1;
            System.arraycopy(sorts, rank + 1, sorts, rank, behind);
            System.arraycopy(places, rank + 1, places, rank, behind);
            System.arraycopy(numbers, rank + 1, numbers, rank, behind);
            System.arraycopy(arrivals, rank + 1, arrivals, rank, behind);
            underWay--;
        }

        int letterNumber(int rank, int what) {
            if (rank < 0 || rank >= underWay) {
                return NONE;
            }
            switch (what) {
                case 0:
                    return sorts[rank];
                case 1:
                    return places[rank] / KINDS;
                case 2:
                    return places[rank] % KINDS;
                case 3:
                    return numbers[rank];
                default:
                    return arrivals[rank];
            }
        }

        void copyFrom(Post other) {
            sent = other.sent;
            lost = other.lost;
            underWay = other.underWay;
            System.arraycopy(other.sorts, 0, sorts, 0, MOST_LETTERS);
            System.arraycopy(other.places, 0, places, 0, MOST_LETTERS);
            System.arraycopy(other.numbers, 0, numbers, 0, MOST_LETTERS);
            System.arraycopy(other.arrivals, 0, arrivals, 0, MOST_LETTERS);
        }
    }

    /** All that a snapshot and a saved state hold. */
    private static final class Cellar {
        int time;
        int houses;
        final int[] settings = {FIRST_DELAY, 0, 0};
        final int[] bottles = {FIRST_BOTTLES, FIRST_BOTTLES, FIRST_BOTTLES};
        final int[] full = new int[KINDS];
        final int[] drunk = new int[KINDS];
        final int[] arrived = new int[KINDS];
        final int[] knownLost = new int[KINDS];
        final int[] lent = new int[PLACES];
        final int[] accounted = new int[PLACES];
        final int[] told = new int[PLACES];
        final int[] poured = new int[PLACES];
        final int[] waiting = new int[PLACES];
        final Post post = new Post();

        void copyFrom(Cellar other) {
            time = other.time;
            houses = other.houses;
            System.arraycopy(other.settings, 0, settings, 0, SETTINGS);
            System.arraycopy(other.bottles, 0, bottles, 0, KINDS);
            System.arraycopy(other.full, 0, full, 0, KINDS);
            System.arraycopy(other.drunk, 0, drunk, 0, KINDS);
            System.arraycopy(other.arrived, 0, arrived, 0, KINDS);
            System.arraycopy(other.knownLost, 0, knownLost, 0, KINDS);
            System.arraycopy(other.lent, 0, lent, 0, PLACES);
            System.arraycopy(other.accounted, 0, accounted, 0, PLACES);
            System.arraycopy(other.told, 0, told, 0, PLACES);
            System.arraycopy(other.poured, 0, poured, 0, PLACES);
            System.arraycopy(other.waiting, 0, waiting, 0, PLACES);
            post.copyFrom(other.post);
        }

        int out(int place) {
            return lent[place] - accounted[place];
        }

        int outOfKind(int kind) {
            int sum = 0;
            for (int place = kind; place < PLACES; place += KINDS) {
                sum += lent[place] - accounted[place];
            }
            return sum;
        }

        int freeBottles(int kind) {
            return bottles[kind] - full[kind] - outOfKind(kind);
        }

        int corks(int place) {
            return told[place] - poured[place];
        }

        boolean canLend(int kind) {
            return freeBottles(kind) > 0 && post.hasRoom();
        }

        boolean canWait(int place) {
            return waiting[place] < MOST_WAITING;
        }

        void lendCork(int place) {
            lent[place]++;
            sendLetter(CORK, place, lent[place]);
        }

        void sendQuestion(int place) {
            sendLetter(QUESTION, place, lent[place]);
        }

        private void sendLetter(int sort, int place, int number) {
            post.send(sort, place, number, time + settings[DELAY], settings[LOSS]);
        }

        void emptyBottle(int kind) {
            full[kind]--;
            drunk[kind]++;
        }

        void letGoBy(int ticks) {
            for (int gone = 0; gone < ticks; gone++) {
                time++;
                takeInLetters();
                letHousesPour();
                lendByItself();
            }
        }

        private void takeInLetters() {
            int before = post.underWay;
            int rank = 0;
            for (int seen = 0; seen < before && rank < MOST_LETTERS; seen++) {
                if (post.arrivals[rank] == time) {
                    int sort = post.sorts[rank];
                    int place = post.places[rank];
                    int number = post.numbers[rank];
                    // It gives its room free before it is read, so that an answer always has room.
                    post.remove(rank);
                    readLetter(sort, place, number);
                } else {
                    rank++;
                }
            }
        }

        private void readLetter(int sort, int place, int number) {
            switch (sort) {
                case CORK:
                    tellHouse(place, number);
                    break;
                case QUESTION:
                    tellHouse(place, number);
                    sendLetter(ANSWER, place, poured[place]);
                    break;
                case POUR:
                    accountForPour(place, number);
                    break;
                default:
                    accountForLost(place, number);
                    break;
            }
        }

        private void tellHouse(int place, int number) {
            told[place] = Math.max(told[place], number);
        }

        private void accountForPour(int place, int number) {
            if (number > accounted[place]) {
                accountForLost(place, number - 1);
                int kind = place % KINDS;
                arrived[kind]++;
                full[kind]++;
                accounted[place] = number;
            }
        }

        private void accountForLost(int place, int number) {
            if (number > accounted[place]) {
                knownLost[place % KINDS] += number - accounted[place];
                accounted[place] = number;
            }
        }

        private void letHousesPour() {
            for (int place = 0; place < PLACES; place++) {
                if (whyNoPour(place) == 0) {
                    waiting[place]--;
                    poured[place]++;
                    sendLetter(POUR, place, poured[place]);
                }
            }
        }

        int whyNoPour(int place) {
            if (waiting[place] <= 0) {
                return 1;
            }
            if (corks(place) <= 0) {
                return out(place) <= 0 ? 2 : 3;
            }
            return post.hasRoom() ? 0 : 4;
        }

        private void lendByItself() {
            for (int place = 0; place < houses * KINDS && place < PLACES; place++) {
                if (out(place) < settings[LENDING] && canLend(place % KINDS)) {
                    lendCork(place);
                }
            }
        }

        /** How many pours of a house wait beyond its corks, over all kinds. */
        int needOf(int house) {
            int need = 0;
            for (int kind = 0; kind < KINDS; kind++) {
                int place = placeOf(house, kind);
                need += Math.max(0, waiting[place] - corks(place));
            }
            return need;
        }

        int kindNumber(int kind, int what) {
            switch (what) {
                case 0:
                    return bottles[kind];
                case 1:
                    return full[kind];
                case 2:
                    return outOfKind(kind);
                case 3:
                    return freeBottles(kind);
                case 4:
                    return drunk[kind];
                case 5:
                    return arrived[kind];
                default:
                    return knownLost[kind];
            }
        }

        int placeNumber(int place, int what) {
            switch (what) {
                case 0:
                    return lent[place];
                case 1:
                    return accounted[place];
                case 2:
                    return out(place);
                case 3:
                    return told[place];
                case 4:
                    return poured[place];
                case 5:
                    return corks(place);
                case 6:
                    return waiting[place];
                case 7:
                    return whyNoPour(place);
                case 8:
                    return lent[place] - told[place];
                default:
                    return poured[place] - accounted[place];
            }
        }
    }

    /** The saved states, the oldest first. */
    private static final class History {
        final Cellar[] states = new Cellar[MOST_SAVED];
        int size;

        History() {
            for (int at = 0; at < MOST_SAVED; at++) {
                states[at] = new Cellar();
            }
        }

        void push(Cellar state) {
            if (size >= MOST_SAVED) {
                dropOldest();
            }
            states[size].copyFrom(state);
            size++;
        }

        /** The dropped object goes behind the others, to be used again. */
        private void dropOldest() {
            Cellar oldest = states[0];
            for (int at = 1; at < MOST_SAVED; at++) {
                states[at - 1] = states[at];
            }
            states[MOST_SAVED - 1] = oldest;
            size = MOST_SAVED - 1;
        }

        void popInto(Cellar state) {
            if (size > 0 && size <= MOST_SAVED) {
                size--;
                state.copyFrom(states[size]);
            }
        }
    }

    /** The buffer, read as a day. */
    private static final class DayText {
        private static final int WRONG = -1;
        private static final int ORDER = 0;
        private static final int HOUSE_DIGIT = 1;
        private static final int KIND_DIGIT = 2;
        private static final int TICK_DIGIT = 3;

        final int[] codes = new int[MOST_SIGNS];
        int length;

        int sign(int at) {
            return at >= 0 && at < length && at < MOST_SIGNS ? codes[at] : NONE;
        }

        /** Below 0 where there is no digit. */
        int digit(int at) {
            int code = sign(at);
            return code >= '0' && code <= '9' ? code - '0' : NONE;
        }

        int orderLength(int at) {
            int order = sign(at);
            return order == 'd' || order == 't' ? 2 : 3;
        }

        int firstWrongSign() {
            int awaited = ORDER;
            for (int at = 0; at < length; at++) {
                awaited = awaitedAfter(awaited, sign(at));
                if (awaited == WRONG) {
                    return at;
                }
            }
            return length;
        }

        boolean isDay() {
            int awaited = ORDER;
            for (int at = 0; at < length; at++) {
                awaited = awaitedAfter(awaited, sign(at));
            }
            return length > 0 && awaited == ORDER;
        }

        /** What has to follow a sign that stands where something was awaited. */
        private static int awaitedAfter(int awaited, int code) {
            switch (awaited) {
                case ORDER:
                    return awaitedInOrder(code);
                case HOUSE_DIGIT:
                    return code >= '0' && code <= '3' ? KIND_DIGIT : WRONG;
                case KIND_DIGIT:
                    return code >= '0' && code <= '2' ? ORDER : WRONG;
                case TICK_DIGIT:
                    return code >= '1' && code <= '9' ? ORDER : WRONG;
                default:
                    return WRONG;
            }
        }

        private static int awaitedInOrder(int code) {
            switch (code) {
                case 'l':
                case 'q':
                case 'w':
                    return HOUSE_DIGIT;
                case 'd':
                    return KIND_DIGIT;
                case 't':
                    return TICK_DIGIT;
                default:
                    return WRONG;
            }
        }
    }
}

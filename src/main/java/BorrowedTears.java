/**
 * Tears not one's own: nobody may weep for his own dead, somebody with no cause must.
 * What each call answers is told, promise by promise, in ../shared/DOC.md.
 */
public final class BorrowedTears {
    public static final int UNKNOWN = -1, BAD = -2, LATE = -3, FULL = -4, NONE = -9;

    private static final int MOST_PEOPLE = 5;
    private static final int MOST_LETTERS = 48;
    private static final int MOST_ACTS = 14;
    private static final int SLOTS = 2;
    private static final int MOST_AGE = 99;
    private static final int PLAIN = 0, HARD = 1, SOFT = 2, ACTOR = 3;
    private static final int FRESH_SORROW = 9;
    private static final int MOST_WEEKS_AHEAD = 9;
    private static final int ONION_OUNCES = 2;
    private static final int MOST_OUNCES = 9;
    private static final int MOST_SUM = 45;
    private static final int MOST_OFFER = 3;
    private static final int TENTHS = 10;
    private static final int MOST_YEARS = 20;
    private static final int EVEN_NET = 100;
    private static final int MOST_STEPS = 64;
    private static final long SEED_FACTOR = 6364136223846793005L;
    private static final long SEED_STEP = 1442695040888963407L;
    private static final int[] FACTORIALS = {1, 1, 2, 6, 24, 120};

    private final LandText text;
    private final People now;
    private final People trial;
    private final Acts acts;
    private final People[] kept;
    private final boolean[] isKept;
    private final Service service;
    private long theSeed;

    public BorrowedTears() {
        text = new LandText();
        now = new People();
        trial = new People();
        acts = new Acts();
        kept = new People[SLOTS];
        isKept = new boolean[SLOTS];
        for (int slot = 0; slot < SLOTS; slot++) {
            kept[slot] = new People();
        }
        service = new Service();
        theSeed = 0L;
    }

    // ---- the land

    public int write(int letter) {
        if (letter < 0 || letter > 255) {
            return BAD;
        }
        return text.append(letter) ? text.length : FULL;
    }

    public int wipe() {
        int length = text.length;
        text.length = 0;
        return length;
    }

    public int fault() {
        return text.readLand();
    }

    public int land() {
        if (text.readLand() != NONE) {
            return LATE;
        }
        now.copyFrom(text.told);
        acts.forgetAll();
        for (int slot = 0; slot < SLOTS; slot++) {
            isKept[slot] = false;
        }
        return now.count;
    }

    public int about(int what) {
        switch (what) {
            case 0:
                return now.count;
            case 1:
                return now.open;
            case 2:
                return now.weeks;
            case 3:
                return now.onionUsers;
            case 4:
                return acts.count;
            case 5:
                return text.length;
            case 6:
                return now.allSorrow();
            default:
                return BAD;
        }
    }

    public int person(int person, int what) {
        if (!now.has(person)) {
            return UNKNOWN;
        }
        switch (what) {
            case 0:
                return now.sorrow[person];
            case 1:
                return now.age[person];
            case 2:
                return now.kind[person];
            case 3:
                return now.kin[person];
            case 4:
                return now.ounces(person);
            case 5:
                return now.thoseToWeepFor(person);
            default:
                return BAD;
        }
    }

    public int owes(int person, int other) {
        if (!now.has(person) || !now.has(other)) {
            return UNKNOWN;
        }
        return now.debt(person, other);
    }

    // ---- acts

    public int funeral(int person) {
        if (!now.has(person)) {
            return UNKNOWN;
        }
        if (now.isOpen(person)) {
            return LATE;
        }
        acts.remember(now);
        now.bereave(person);
        return Integer.bitCount(now.open);
    }

    public int weep(int person, int other) {
        if (!now.has(person) || !now.has(other)) {
            return UNKNOWN;
        }
        if (!now.mayWeep(person, other)) {
            return LATE;
        }
        acts.remember(now);
        return now.weepFor(person, other);
    }

    public int onions(int person, int other) {
        if (!now.has(person) || !now.has(other)) {
            return UNKNOWN;
        }
        if (!now.mayUseOnions(person, other)) {
            return LATE;
        }
        acts.remember(now);
        now.useOnions(person, other);
        return Integer.bitCount(now.onionUsers);
    }

    public int week() {
        acts.remember(now);
        now.passWeek();
        return now.weeks;
    }

    public int undo() {
        if (acts.count == 0) {
            return LATE;
        }
        acts.takeLast(now);
        return acts.count;
    }

    // ---- funerals

    public int served(int what) {
        if (what < 0 || what > 2) {
            return BAD;
        }
        service.search(now, now.open, now.unbereaved());
        if (what == 0) {
            return service.most;
        }
        return what == 1 ? service.ounces : service.way;
    }

    public int nobody(int what) {
        if (what == 0) {
            return now.unweptBits();
        }
        return what == 1 ? now.kinToAllBits() : BAD;
    }

    public int till(int person, int other) {
        if (!now.has(person) || !now.has(other)) {
            return UNKNOWN;
        }
        trial.copyFrom(now);
        for (int weeks = 0; weeks <= MOST_WEEKS_AHEAD; weeks++) {
            if (trial.mayWeep(person, other)) {
                return weeks;
            }
            trial.passWeek();
        }
        return NONE;
    }

    public int net(int person) {
        if (!now.has(person)) {
            return UNKNOWN;
        }
        int net = EVEN_NET;
        for (int other = 0; other < now.count; other++) {
            net += now.debt(other, person) - now.debt(person, other);
        }
        return net;
    }

    public int ring() {
        int bits = 0;
        for (int person = 0; person < now.count; person++) {
            bits |= now.reachedByDebts(person) & 1 << person;
        }
        return bits;
    }

    public int share(int person, boolean upper) {
        if (!now.has(person)) {
            return UNKNOWN;
        }
        if (now.isOpen(person)) {
            return fraction(0, 1, upper);
        }
        int others = now.unbereaved() & ~(1 << person);
        int comers = Integer.bitCount(others) + 1;
        int above = 0;
        for (int ahead = 0; ahead <= others; ahead++) {
            if ((ahead & ~others) == 0) {
                int before = Integer.bitCount(ahead);
                int orders = factorial(before) * factorial(comers - 1 - before);
                above += orders * gain(person, ahead);
            }
        }
        return fraction(above, factorial(comers), upper);
    }

    // ---- weighed

    public int weighed(int people, int sum, int what) {
        if ((people & ~now.everyone()) != 0 || sum < 0 || sum > MOST_SUM || what < 0 || what > 2) {
            return BAD;
        }
        int sets = 0;
        int inAll = people;
        int inSome = 0;
        for (int users = 0; users <= people; users++) {
            if ((users & ~people) == 0 && weight(people, users) == sum) {
                sets++;
                inAll &= users;
                inSome |= users;
            }
        }
        if (what == 0) {
            return sets;
        }
        if (sets == 0) {
            return NONE;
        }
        return what == 1 ? inAll : people & ~inSome;
    }

    public int whose(int w) {
        if (w < 1 || w > MOST_OUNCES) {
            return BAD;
        }
        int bits = 0;
        for (int person = 0; person < now.count; person++) {
            if (now.ounces(person) == w) {
                bits |= 1 << person;
            }
        }
        return bits;
    }

    // ---- rests, chances

    public int rests(int person, int other, int third, int what) {
        if (!now.has(person) || !now.has(other) || !now.has(third)) {
            return UNKNOWN;
        }
        if (person == other || person == third || other == third || what < 0 || what > 1) {
            return BAD;
        }
        if (!now.isOpen(third)) {
            return LATE;
        }
        boolean oneMay = now.mayWeep(person, third);
        boolean otherMay = now.mayWeep(other, third);
        int pairs = 0;
        int first = NONE;
        for (int offer = 0; offer <= MOST_OFFER; offer++) {
            for (int answer = 0; answer <= MOST_OFFER; answer++) {
                if (isAtRest(offer, answer, oneMay, otherMay)) {
                    first = pairs == 0 ? 10 * offer + answer : first;
                    pairs++;
                }
            }
        }
        return what == 0 ? pairs : first;
    }

    public int chance(int x, boolean upper) {
        if (x < 0 || x > TENTHS) {
            return BAD;
        }
        int spared = now.unbereaved();
        int size = Integer.bitCount(spared);
        int above = 0;
        for (int struck = 0; struck <= spared; struck++) {
            if ((struck & ~spared) == 0 && allServed(now.open | struck)) {
                int hits = Integer.bitCount(struck);
                above += power(x, hits) * power(TENTHS - x, size - hits);
            }
        }
        return fraction(above, power(TENTHS, size), upper);
    }

    public long seed(long v) {
        long before = theSeed;
        theSeed = v;
        return before;
    }

    public int years(int m) {
        if (m < 1 || m > MOST_YEARS) {
            return BAD;
        }
        trial.copyFrom(now);
        int wept = 0;
        for (int time = 0; time < m; time++) {
            theSeed = theSeed * SEED_FACTOR + SEED_STEP;
            int lot = (int) ((theSeed >>> 33) % 50L);
            trial.bereave(lot / 10);
            if (trial.weepFor(lot % 10, lot / 10) > 0) {
                wept++;
            }
            trial.passWeek();
        }
        return wept;
    }

    // ---- slots

    public int keep(int slot) {
        if (slot < 0 || slot >= SLOTS) {
            return UNKNOWN;
        }
        kept[slot].copyFrom(now);
        isKept[slot] = true;
        return now.weeks;
    }

    public int again(int slot) {
        if (slot < 0 || slot >= SLOTS) {
            return UNKNOWN;
        }
        if (!isKept[slot]) {
            return LATE;
        }
        now.copyFrom(kept[slot]);
        acts.forgetAll();
        return now.weeks;
    }

    // ---- what the calls share

    private int gain(int person, int ahead) {
        int without = service.search(now, now.open, ahead);
        return service.search(now, now.open, ahead | 1 << person) - without;
    }

    private boolean allServed(int open) {
        return service.search(now, open, now.everyone() & ~open) == Integer.bitCount(open);
    }

    private int weight(int people, int users) {
        int sum = 0;
        for (int person = 0; person < now.count; person++) {
            if (hasBit(users, person)) {
                sum += ONION_OUNCES;
            } else if (hasBit(people, person)) {
                sum += now.ounces(person);
            }
        }
        return sum;
    }

    private static boolean isAtRest(int offer, int answer, boolean oneMay, boolean otherMay) {
        int gotByOne = gotByOne(offer, answer, oneMay, otherMay);
        int gotByOther = gotByOther(offer, answer, oneMay, otherMay);
        for (int change = 0; change <= MOST_OFFER; change++) {
            if (gotByOne(change, answer, oneMay, otherMay) > gotByOne
                    || gotByOther(offer, change, oneMay, otherMay) > gotByOther) {
                return false;
            }
        }
        return true;
    }

    private static boolean oneWeeps(int offer, int answer, boolean oneMay, boolean otherMay) {
        return oneMay && (offer >= answer || !otherMay);
    }

    private static int gotByOne(int offer, int answer, boolean oneMay, boolean otherMay) {
        return got(offer, oneMay, oneWeeps(offer, answer, oneMay, otherMay));
    }

    private static int gotByOther(int offer, int answer, boolean oneMay, boolean otherMay) {
        boolean weeps = otherMay && !oneWeeps(offer, answer, oneMay, otherMay);
        return got(answer, otherMay, weeps);
    }

    private static int got(int offer, boolean may, boolean weeps) {
        if (weeps) {
            return MOST_OFFER - offer;
        }
        return offer > 0 && !may ? -1 : 0;
    }

    private static boolean hasBit(int bits, int place) {
        return place >= 0 && place < MOST_PEOPLE && (bits >> place & 1) != 0;
    }

    private static int factorial(int n) {
        return n >= 0 && n < FACTORIALS.length ? FACTORIALS[n] : 0;
    }

    private static int power(int base, int times) {
        int product = 1;
        for (int time = 0; time < times; time++) {
            product *= base;
        }
        return product;
    }

    private static int fraction(int above, int below, boolean upper) {
        int common = below;
        int rest = above;
        for (int step = 0; rest > 0 && step < MOST_STEPS; step++) {
            int left = common % rest;
            common = rest;
            rest = left;
        }
        return common > 0 ? (upper ? above : below) / common : 0;
    }

    // What acts change and what only a land tells stand together: so that one copy serves acts,
    // slots, years and waiting alike.
    private static final class People {
        final int[] sorrow = new int[MOST_PEOPLE];
        final int[] age = new int[MOST_PEOPLE];
        final int[] kind = new int[MOST_PEOPLE];
        final int[] kin = new int[MOST_PEOPLE];
        // In one row, since a copy of rows of rows would make more objects than all else.
        final int[] owed = new int[MOST_PEOPLE * MOST_PEOPLE];
        int count;
        int open;
        int onionUsers;
        int weeks;

        void copyFrom(People other) {
            System.arraycopy(other.sorrow, 0, sorrow, 0, MOST_PEOPLE);
            System.arraycopy(other.age, 0, age, 0, MOST_PEOPLE);
            System.arraycopy(other.kind, 0, kind, 0, MOST_PEOPLE);
            System.arraycopy(other.kin, 0, kin, 0, MOST_PEOPLE);
            System.arraycopy(other.owed, 0, owed, 0, MOST_PEOPLE * MOST_PEOPLE);
            count = other.count;
            open = other.open;
            onionUsers = other.onionUsers;
            weeks = other.weeks;
        }

        void clear() {
            for (int person = 0; person < MOST_PEOPLE; person++) {
                sorrow[person] = 0;
                age[person] = 0;
                kind[person] = PLAIN;
                kin[person] = 0;
            }
            for (int debt = 0; debt < MOST_PEOPLE * MOST_PEOPLE; debt++) {
                owed[debt] = 0;
            }
            count = 0;
            open = 0;
            onionUsers = 0;
            weeks = 0;
        }

        void add(int itsSorrow, int itsAge, int itsKind) {
            if (count >= 0 && count < MOST_PEOPLE) {
                sorrow[count] = itsSorrow;
                age[count] = itsAge;
                kind[count] = itsKind;
                count++;
            }
        }

        boolean has(int person) {
            return person >= 0 && person < count && person < MOST_PEOPLE;
        }

        int everyone() {
            return (1 << count) - 1;
        }

        int unbereaved() {
            return everyone() & ~open;
        }

        boolean isOpen(int person) {
            return hasBit(open, person);
        }

        boolean areKin(int person, int other) {
            return has(person) && hasBit(kin[person], other);
        }

        void makeKin(int person, int other) {
            if (has(person) && has(other)) {
                kin[person] |= 1 << other;
                kin[other] |= 1 << person;
            }
        }

        // The lesser one of a pair is told first: only later ones can be told with it.
        int laterStrangers(int person) {
            return has(person) ? everyone() & ~kin[person] & -(2 << person) : 0;
        }

        int ounces(int person) {
            if (!has(person) || kind[person] == ACTOR) {
                return 0;
            }
            if (kind[person] == SOFT) {
                return sorrow[person] / 2;
            }
            if (age[person] < 2) {
                return 0;
            }
            return sorrow[person] / (kind[person] == HARD ? 4 : 3);
        }

        int allSorrow() {
            int sum = 0;
            for (int person = 0; person < MOST_PEOPLE; person++) {
                sum += sorrow[person];
            }
            return sum;
        }

        // Apart from mayWeep, since a chance asks it of funerals that have not come.
        boolean isFitFor(int person, int other) {
            return ounces(person) >= 1 && !areKin(person, other);
        }

        boolean mayWeep(int person, int other) {
            return isOpen(other) && !isOpen(person) && isFitFor(person, other);
        }

        boolean mayUseOnions(int person, int other) {
            return has(person) && isOpen(other) && !isOpen(person) && !areKin(person, other);
        }

        int thoseToWeepFor(int person) {
            int bits = 0;
            for (int other = 0; other < MOST_PEOPLE; other++) {
                if (mayWeep(person, other)) {
                    bits |= 1 << other;
                }
            }
            return bits;
        }

        int unweptBits() {
            int bits = open;
            for (int person = 0; person < MOST_PEOPLE; person++) {
                bits &= ~thoseToWeepFor(person);
            }
            return bits;
        }

        int kinToAllBits() {
            int bits = 0;
            for (int person = 0; person < MOST_PEOPLE; person++) {
                if (has(person) && (kin[person] | 1 << person) == everyone()) {
                    bits |= 1 << person;
                }
            }
            return bits;
        }

        int debt(int person, int other) {
            return has(person) && has(other) ? owed[person * MOST_PEOPLE + other] : 0;
        }

        // As many steps as people can be: a longer way has been somewhere twice.
        int reachedByDebts(int person) {
            int reached = creditors(person);
            for (int step = 0; step < MOST_PEOPLE; step++) {
                for (int other = 0; other < MOST_PEOPLE; other++) {
                    if (hasBit(reached, other)) {
                        reached |= creditors(other);
                    }
                }
            }
            return reached;
        }

        private int creditors(int person) {
            int bits = 0;
            for (int other = 0; other < MOST_PEOPLE; other++) {
                if (debt(person, other) > 0) {
                    bits |= 1 << other;
                }
            }
            return bits;
        }

        // A year's lot names anybody, so this looks for itself whether it can be; and weepFor too.
        void bereave(int person) {
            if (has(person) && !isOpen(person)) {
                sorrow[person] = FRESH_SORROW;
                age[person] = 0;
                open |= 1 << person;
            }
        }

        int weepFor(int person, int other) {
            if (!has(person) || !mayWeep(person, other)) {
                return 0;
            }
            int wept = ounces(person);
            sorrow[person] -= wept;
            settle(person, other);
            return wept;
        }

        void useOnions(int person, int other) {
            if (mayUseOnions(person, other)) {
                onionUsers |= 1 << person;
                settle(person, other);
            }
        }

        private void settle(int weeper, int bereaved) {
            if (has(weeper) && has(bereaved)) {
                makeKin(weeper, bereaved);
                owed[bereaved * MOST_PEOPLE + weeper]++;
                open &= ~(1 << bereaved);
            }
        }

        void passWeek() {
            for (int person = 0; person < count && person < MOST_PEOPLE; person++) {
                age[person] = Math.min(MOST_AGE, age[person] + 1);
                if (age[person] >= 3) {
                    sorrow[person] = Math.max(0, sorrow[person] - 1);
                }
            }
            weeks++;
        }
    }

    // It reads into people of its own: a text with a fault leaves the land as it is.
    private static final class LandText {
        final int[] letters = new int[MOST_LETTERS];
        final People told = new People();
        int length;

        boolean append(int letter) {
            if (length < 0 || length >= MOST_LETTERS) {
                return false;
            }
            letters[length] = letter;
            length++;
            return true;
        }

        int readLand() {
            told.clear();
            if (letterAt(0) != 'T') {
                return 0;
            }
            int place = 1;
            while (place < length) {
                boolean tellsPerson = letterAt(place) == 'P';
                int wrong = tellsPerson ? readPerson(place) : readKin(place);
                if (wrong != NONE) {
                    return wrong;
                }
                place += tellsPerson ? 4 : 3;
            }
            return NONE;
        }

        // The end of the text is met as a letter that fits nowhere: so a text that only
        // ends too early has its fault at its length.
        private int letterAt(int place) {
            return place >= 0 && place < length && place < MOST_LETTERS ? letters[place] : -1;
        }

        private int digitAt(int place) {
            int letter = letterAt(place);
            return letter >= '0' && letter <= '9' ? letter - '0' : -1;
        }

        private int readPerson(int place) {
            if (told.count >= MOST_PEOPLE) {
                return place;
            }
            int itsSorrow = digitAt(place + 1);
            if (itsSorrow < 0) {
                return place + 1;
            }
            int itsAge = digitAt(place + 2);
            if (itsAge < 0) {
                return place + 2;
            }
            int itsKind = digitAt(place + 3);
            if (itsKind < 0 || itsKind > ACTOR) {
                return place + 3;
            }
            told.add(itsSorrow, itsAge, itsKind);
            return NONE;
        }

        private int readKin(int place) {
            if (letterAt(place) != 'K' || !isPairLeft()) {
                return place;
            }
            int one = digitAt(place + 1);
            int strangers = told.laterStrangers(one);
            if (strangers == 0) {
                return place + 1;
            }
            int other = digitAt(place + 2);
            if (!hasBit(strangers, other)) {
                return place + 2;
            }
            told.makeKin(one, other);
            return NONE;
        }

        private boolean isPairLeft() {
            for (int one = 0; one < MOST_PEOPLE; one++) {
                if (told.laterStrangers(one) != 0) {
                    return true;
                }
            }
            return false;
        }
    }

    // Whole standings are kept, not what changed: what a week took at 0 or at 99 can't be told back.
    private static final class Acts {
        final People[] before = new People[MOST_ACTS];
        int first;
        int count;

        Acts() {
            for (int act = 0; act < MOST_ACTS; act++) {
                before[act] = new People();
            }
        }

        void forgetAll() {
            first = 0;
            count = 0;
        }

        void remember(People people) {
            if (count >= MOST_ACTS) {
                first = inRing(first + 1);
                count = MOST_ACTS - 1;
            }
            before[inRing(first + count)].copyFrom(people);
            count++;
        }

        void takeLast(People people) {
            if (count > 0) {
                count--;
                people.copyFrom(before[inRing(first + count)]);
            }
        }

        // floorMod, since % of a number below 0 would be no index.
        private static int inRing(int act) {
            return Math.floorMod(act, MOST_ACTS);
        }
    }

    // It is given who is bereaved and who is free, as shares and chances ask of others than now.
    private static final class Service {
        int bereaved;
        int most;
        int ounces;
        int way;

        int search(People people, int open, int free) {
            bereaved = open;
            most = -1;
            ounces = 0;
            way = 0;
            give(this, people, free, 0, 0, 0, 0);
            return most;
        }

        // Ways are tried from the least number up: so of like ones the first found stays.
        private static void give(Service best, People people, int free, int whose, int given, int cost, int told) {
            if (whose >= MOST_PEOPLE) {
                best.compare(given, cost, told);
                return;
            }
            if (!hasBit(best.bereaved, whose)) {
                give(best, people, free, whose + 1, given, cost, told);
                return;
            }
            give(best, people, free, whose + 1, given, cost, told * 10);
            for (int weeper = 0; weeper < MOST_PEOPLE; weeper++) {
                if (hasBit(free, weeper) && people.isFitFor(weeper, whose)) {
                    int left = free & ~(1 << weeper);
                    int withIts = cost + people.ounces(weeper);
                    give(best, people, left, whose + 1, given + 1, withIts, told * 10 + weeper + 1);
                }
            }
        }

        private void compare(int given, int cost, int told) {
            if (given > most || given == most && cost < ounces) {
                most = given;
                ounces = cost;
                way = told;
            }
        }
    }
}

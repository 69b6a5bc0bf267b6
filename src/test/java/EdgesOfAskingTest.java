import java.math.BigInteger;

/** The edges that parts 2 and 3 of the document's terms name, a test of its own for each sentence. */
public final class EdgesOfAskingTest {
    private static final String FIVE = "TP950P950P950P950P950";

    public static void main(String[] args) {
        servedAtEdges();
        mostThenLeastThenFirst();
        nobodyAtEdges();
        everAtEdges();
        tillAtEdges();
        netAtEdges();
        ringAtEdges();
        shareAtEdges();
        weighedAtEdges();
        weighedNone();
        whoseAtEdges();
        restsAtEdges();
        chanceAtEdges();
        fractions();
        seedWraps();
        yearsAtEdges();
        lotsAtEdges();
        slotsAtEdges();
        Due.end("EdgesOfAskingTest");
    }

    private static BorrowedTears bereaved(String letters, int... people) {
        BorrowedTears tears = Due.landOf(letters);
        for (int person : people) {
            tears.funeral(person);
        }
        return tears;
    }

    private static void service(String what, BorrowedTears tears, int most, int ounces, int way) {
        Due.due(what + ": most", tears.served(0), most);
        Due.due(what + ": ounces", tears.served(1), ounces);
        Due.due(what + ": way", tears.served(2), way);
    }

    private static void servedAtEdges() {
        Due.sentence("SERVED: no open FUNERALS");
        service("nobody there", new BorrowedTears(), 0, 0, 0);
        service("nobody dead", Due.landOf(FIVE), 0, 0, 0);
        Due.sentence("SERVED: all have an open FUNERAL");
        service("all", bereaved(FIVE, 0, 1, 2, 3, 4), 0, 0, 0);
        service("one alone", bereaved("TP950", 0), 0, 0, 0);
        service("soft ones, with ounces", bereaved("TP902P902P902P902P902", 0, 1, 2, 3, 4), 0, 0, 0);
        service("a soft one, with ounces", bereaved("TP902P950P950", 0, 1), 1, 3, 3);
        Due.sentence("SERVED: given to PEOPLE that MAY weep for them now");
        service("too young", bereaved("TP910P950", 1), 0, 0, 0);
        service("kin", bereaved("TP950P950K01", 1), 0, 0, 0);
        service("an actor", bereaved("TP993P950", 1), 0, 0, 0);
        service("one ounce", bereaved("TP320P950", 1), 1, 1, 1);
        Due.sentence("SERVED: to no PERSON two");
        service("one for four", bereaved(FIVE, 0, 1, 2, 3), 1, 3, 5);
        service("one for two", bereaved("TP950P950P950", 0, 2), 1, 3, 2);
        Due.sentence("served: what (0 .. 2)");
        BorrowedTears tears = bereaved(FIVE, 3);
        Due.due("served(-1)", tears.served(-1), -2);
        Due.due("served(0)", tears.served(0), 1);
        Due.due("served(2)", tears.served(2), 1);
        Due.due("served(3)", tears.served(3), -2);
    }

    private static void mostThenLeastThenFirst() {
        Due.sentence("SERVED: MOST that can be");
        service("two at more ounces than one", bereaved("TP950P902P320P950P950K03K04", 3, 4), 2, 5, 23);
        Due.sentence("SERVED: those who weep have least OUNCES together");
        service("the last one has least", bereaved("TP902P950P821P320P950", 4), 1, 1, 4);
        service("for the only one for whom they may", bereaved("TP950P950P950P320K02K03", 0, 1), 1, 1, 4);
        Due.sentence("SERVED: of like ones the first, the least as a number, 0: not served");
        service("of like weepers", bereaved(FIVE, 1, 3), 2, 6, 13);
        service("of like unserved ones", bereaved("TP950P950P950", 0, 1), 1, 3, 3);
        service("of like unserved ones, not for the first", bereaved("TP950P950P320P950K02", 0, 1, 3), 1, 1, 3);
        service("not served is less than any number", bereaved(FIVE, 0, 1, 2), 2, 6, 45);
        Due.sentence("SERVED: told by PEOPLE bereaved in order");
        service("the fifth number", bereaved(FIVE + "K01K02K03", 0, 3), 2, 6, 52);
        service("four figures", bereaved(FIVE + "K14K24K34", 3, 2, 1, 0), 1, 3, 5000);
    }

    private static void nobodyAtEdges() {
        Due.sentence("NOBODY: open FUNERALS for which nobody MAY weep now");
        Due.due("nobody there", new BorrowedTears().nobody(0), 0);
        Due.due("none is open", Due.landOf("TP000").nobody(0), 0);
        Due.due("one alone", bereaved("TP950", 0).nobody(0), 1);
        Due.due("all five", bereaved(FIVE, 0, 1, 2, 3, 4).nobody(0), 31);
        Due.due("soft ones, with ounces", bereaved("TP902P902P902", 0, 1, 2).nobody(0), 7);
        Due.due("four and one who may", bereaved(FIVE, 0, 1, 2, 3).nobody(0), 0);
        Due.due("four and the first one who may", bereaved(FIVE, 1, 2, 3, 4).nobody(0), 0);
        Due.due("four and kin of one", bereaved(FIVE + "K24", 0, 1, 2, 3).nobody(0), 4);
        Due.due("of age by a week", bereaved("TP910P950", 1).nobody(0), 2);
        Due.sentence("nobody: what (0, 1)");
        BorrowedTears tears = Due.landOf("TP950");
        Due.due("nobody(-1)", tears.nobody(-1), -2);
        Due.due("nobody(1)", tears.nobody(1), 1);
        Due.due("nobody(2)", tears.nobody(2), -2);
    }

    private static void everAtEdges() {
        Due.sentence("EVER: PEOPLE that are KIN to all others");
        Due.due("nobody there", new BorrowedTears().nobody(1), 0);
        Due.due("one alone: there are no others", Due.landOf("TP950").nobody(1), 1);
        Due.due("two", Due.landOf("TP950P950").nobody(1), 0);
        Due.due("two kin", Due.landOf("TP950P950K01").nobody(1), 3);
        BorrowedTears tears = Due.landOf(FIVE + "K01K02K03K04K12K13K14K23K24");
        Due.due("all pairs but one", tears.nobody(1), 7);
        tears.funeral(4);
        Due.due("the last pair", tears.onions(3, 4), 1);
        Due.due("all", tears.nobody(1), 31);
    }

    private static void till(String what, String letters, int want) {
        BorrowedTears tears = bereaved(letters, 1);
        Due.due("till: " + what, tears.till(0, 1), want);
        for (int week = 1; want >= 0 && week <= want; week++) {
            Due.due("may, week " + week + ", " + what, tears.person(0, 5), 0);
            tears.week();
        }
        Due.due("may then: " + what, tears.person(0, 5), want < 0 ? 0 : 2);
    }

    private static void tillAtEdges() {
        Due.sentence("WEEKS till one may: the least n (0 .. 9)");
        till("now, though later too", "TP990P950", 0);
        till("now, though not later", "TP320P950", 0);
        till("one week, the least sorrow", "TP310P950", 1);
        till("two weeks, the least sorrow", "TP300P950", 2);
        till("hard, now", "TP421P950", 0);
        till("hard, one week", "TP411P950", 1);
        till("hard, two weeks", "TP401P950", 2);
        till("soft, of any age", "TP202P950", 0);
        till("soft, though not later", "TP222P950", 0);
        Due.sentence("WEEKS till one may: NONE");
        till("too little", "TP200P950", -9);
        till("too little, hard", "TP301P950", -9);
        till("too little, soft", "TP102P950", -9);
        till("an actor", "TP993P950", -9);
        till("kin", "TP990P950K01", -9);
        BorrowedTears tears = bereaved(FIVE, 1);
        Due.due("itself", tears.till(1, 1), -9);
        Due.due("an open one itself", tears.till(1, 0), -9);
        Due.due("none is open", tears.till(0, 2), -9);
        Due.due("itself, none is open", tears.till(0, 0), -9);
        Due.sentence("till: nothing is changed");
        tears = bereaved("TP900P950", 1);
        String stood = Due.everything(bereaved("TP900P950", 1));
        Due.due("till", tears.till(0, 1), 2);
        Due.same("behind till", Due.everything(tears), stood);
    }

    /** Pairs of one who is bereaved and one who weeps for it by onions. */
    private static BorrowedTears debts(int... pairs) {
        BorrowedTears tears = Due.landOf("TP000P000P000P000P000");
        for (int pair = 0; pair + 1 < pairs.length; pair += 2) {
            tears.funeral(pairs[pair]);
            tears.onions(pairs[pair + 1], pairs[pair]);
        }
        return tears;
    }

    private static void netAtEdges() {
        Due.sentence("NET: FUNERALS it is owed less those it owes, and 100");
        BorrowedTears tears = debts();
        for (int person = 0; person < 5; person++) {
            Due.due("none", tears.net(person), 100);
        }
        tears = debts(0, 1, 0, 2, 0, 3, 0, 4);
        Due.due("it owes all", tears.net(0), 96);
        Due.due("one owes it", tears.net(4), 101);
        tears = debts(1, 0, 2, 0, 3, 0, 4, 0);
        Due.due("all owe it", tears.net(0), 104);
        Due.due("it owes one", tears.net(4), 99);
        tears = debts(0, 1, 2, 0);
        Due.due("as many", tears.net(0), 100);
    }

    private static void ringAtEdges() {
        Due.sentence("RING: PEOPLE that come back to themselves");
        Due.due("nobody there", new BorrowedTears().ring(), 0);
        Due.due("nobody owes", debts().ring(), 0);
        Due.due("one alone", Due.landOf("TP950").ring(), 0);
        BorrowedTears two = bereaved("TP950P950", 0);
        two.weep(1, 0);
        Due.due("two, one owes the other", two.ring(), 0);
        Due.due("one owes another", debts(3, 4).ring(), 0);
        Due.due("the longest chain", debts(0, 1, 1, 2, 2, 3, 3, 4).ring(), 0);
        Due.due("the longest chain, down", debts(4, 3, 3, 2, 2, 1, 1, 0).ring(), 0);
        Due.due("the shortest ring", debts(0, 1, 1, 2, 2, 0).ring(), 7);
        Due.due("the longest ring", debts(0, 1, 1, 2, 2, 3, 3, 4, 4, 0).ring(), 31);
        Due.due("the longest ring, in leaps", debts(0, 2, 2, 4, 4, 1, 1, 3, 3, 0).ring(), 31);
        Due.due("two rings with one in both", debts(0, 1, 1, 2, 2, 0, 2, 3, 3, 4, 4, 2).ring(), 31);
        Due.due("one that leads to a ring", debts(0, 1, 1, 2, 2, 3, 3, 1).ring(), 14);
        Due.due("one that a ring leads to", debts(1, 2, 2, 3, 3, 1, 3, 4).ring(), 14);
    }

    private static void share(String what, BorrowedTears tears, int person, int above, int below) {
        Due.due("share, " + what + ": above", tears.share(person, true), above);
        Due.due("share, " + what + ": below", tears.share(person, false), below);
    }

    private static void shareAtEdges() {
        Due.sentence("SHARE: 0, if it has an open FUNERAL");
        share("all have one", bereaved(FIVE, 0, 1, 2, 3, 4), 4, 0, 1);
        share("its own", bereaved(FIVE, 2), 2, 0, 1);
        share("a soft one alone", bereaved("TP902", 0), 0, 0, 1);
        share("a soft one that could weep", bereaved("TP902P950P950", 0, 1), 0, 0, 1);
        share("the one beside it", bereaved("TP902P950P950", 0, 1), 2, 1, 1);
        share("nobody else may", bereaved("TP902P950P993", 0, 1), 0, 0, 1);
        Due.sentence("SHARE: no open FUNERALS");
        share("one alone", Due.landOf("TP950"), 0, 0, 1);
        share("five", Due.landOf(FIVE), 4, 0, 1);
        Due.sentence("SHARE: by how much in the mean MOST SERVED is more when it has come");
        share("one comes for four", bereaved(FIVE, 0, 1, 2, 3), 4, 1, 1);
        share("two come for three", bereaved(FIVE, 0, 1, 2), 4, 1, 1);
        share("three come for two", bereaved(FIVE, 0, 1), 4, 2, 3);
        share("four come for one", bereaved(FIVE, 0), 4, 1, 4);
        share("two beside a soft one that is bereaved", bereaved("TP902P950P950", 0), 1, 1, 2);
        share("kin of all", bereaved(FIVE + "K04", 0), 4, 0, 1);
        share("three others", bereaved(FIVE + "K04", 0), 1, 1, 3);
        share("the only one", bereaved(FIVE + "K04K03K02", 0), 1, 1, 1);
        share("the one who may for both", bereaved(FIVE + "K02K03", 0, 1), 4, 1, 1);
        share("two who may for one alone", bereaved(FIVE + "K02K03", 0, 1), 3, 1, 2);
        share("one who may for none", bereaved(FIVE + "K02K12K03", 0, 1), 2, 0, 1);
    }

    private static void weighedAtEdges() {
        Due.sentence("WEIGHED: bits of PEOPLE that there are");
        BorrowedTears tears = Due.landOf("TP920P821P902P993P320");
        Due.due("none of them", tears.weighed(0, 0, 0), 1);
        Due.due("all of them", tears.weighed(31, 10, 0), 8);
        Due.due("beyond the last", tears.weighed(32, 2, 0), -2);
        Due.due("all and one beyond", tears.weighed(63, 10, 0), -2);
        Due.due("below none", tears.weighed(-1, 10, 0), -2);
        Due.due("the highest bit", tears.weighed(Integer.MIN_VALUE, 0, 0), -2);
        Due.due("one of nobody", new BorrowedTears().weighed(1, 2, 0), -2);
        Due.due("none of nobody", new BorrowedTears().weighed(0, 0, 0), 1);
        Due.sentence("WEIGHED: a sum (0 .. 45)");
        Due.due("below the least", tears.weighed(8, -1, 0), -2);
        Due.due("the least", tears.weighed(8, 0, 0), 1);
        Due.due("the greatest", tears.weighed(31, 45, 0), 0);
        Due.due("beyond the greatest", tears.weighed(31, 46, 0), -2);
        Due.due("the greatest that is given", Due.landOf("TP902P902P902P902P902").weighed(31, 20, 0), 1);
        Due.due("beyond what is given", Due.landOf("TP902P902P902P902P902").weighed(31, 21, 0), 0);
        Due.sentence("weighed: what (0 .. 2)");
        Due.due("what -1", tears.weighed(8, 0, -1), -2);
        Due.due("what 2", tears.weighed(8, 0, 2), 8);
        Due.due("what 3", tears.weighed(8, 0, 3), -2);
    }

    private static void weighedNone() {
        Due.sentence("WEIGHED: NONE (of the latter two): there are none");
        BorrowedTears tears = Due.landOf("TP920P993");
        Due.due("how many", tears.weighed(1, 1, 0), 0);
        Due.due("in all", tears.weighed(1, 1, 1), -9);
        Due.due("in none", tears.weighed(1, 1, 2), -9);
        Due.due("of none, in all", tears.weighed(0, 1, 1), -9);
        Due.due("of none, in none", tears.weighed(0, 1, 2), -9);
        Due.due("one set, in all", tears.weighed(0, 0, 1), 0);
        Due.sentence("WEIGHED: in none (of those told)");
        Due.due("one set, nobody told", tears.weighed(0, 0, 2), 0);
        Due.due("the one told", tears.weighed(1, 3, 2), 1);
        Due.due("both", tears.weighed(3, 3, 2), 3);
        Due.due("one has used some", tears.weighed(3, 5, 2), 1);
        Due.due("either has used some", Due.landOf("TP920P920P920").weighed(3, 5, 2), 0);
        Due.due("all have used some", tears.weighed(3, 4, 2), 0);
        Due.due("two of three have used some", Due.landOf("TP920P920P920").weighed(7, 7, 2), 0);
        Due.sentence("WEIGHED: each ONIONS by 2 ounces, each other one of them by its OUNCES (as they are now)");
        Due.due("both used some", tears.weighed(3, 4, 1), 3);
        Due.due("one of them", tears.weighed(3, 5, 1), 2);
        tears.funeral(0);
        Due.due("no ounces now", tears.weighed(3, 0, 0), 1);
        Due.due("either", tears.weighed(3, 2, 0), 2);
    }

    private static void whoseAtEdges() {
        Due.sentence("WHOSE: PEOPLE whose OUNCES are just w (1 .. 9)");
        BorrowedTears tears = Due.landOf("TP320P902P821P993P920");
        int[] those = {-2, 1, 4, 16, 2, 0, 0, 0, 0, 0, -2};
        for (int w = 0; w <= 10; w++) {
            Due.due("whose(" + w + ")", tears.whose(w), those[w]);
        }
        Due.due("whose(-1)", tears.whose(-1), -2);
        for (int w = 1; w <= 9; w++) {
            Due.due("whose of nobody", new BorrowedTears().whose(w), 0);
            Due.due("all", Due.landOf(FIVE).whose(w), w == 3 ? 31 : 0);
        }
    }

    private static void rest(String what, BorrowedTears tears, int one, int other, int pairs, int first) {
        Due.due("rests, " + what + ": how many", tears.rests(one, other, 2, 0), pairs);
        Due.due("rests, " + what + ": the first one", tears.rests(one, other, 2, 1), first);
    }

    private static void restsAtEdges() {
        Due.sentence("RESTS: each offers 0 .. 3; pairs in which neither has more by another offer alone");
        rest("both may", bereaved(FIVE, 2), 0, 4, 3, 22);
        rest("both may, one ounce each", bereaved("TP320P320P950", 2), 1, 0, 3, 22);
        rest("the one may", bereaved(FIVE + "K24", 2), 0, 4, 1, 0);
        rest("the other one may", bereaved(FIVE + "K02", 2), 0, 4, 1, 0);
        rest("neither may", bereaved(FIVE + "K02K24", 2), 0, 4, 1, 0);
        rest("neither has an ounce", bereaved("TP220P910P950", 2), 0, 1, 1, 0);
        rest("the one has an open FUNERAL", bereaved(FIVE, 2, 0), 0, 4, 1, 0);
        rest("all have an open FUNERAL", bereaved(FIVE, 0, 1, 2, 3, 4), 0, 4, 1, 0);
        rest("both soft, with an open FUNERAL", bereaved("TP902P902P902", 0, 1, 2), 0, 1, 1, 0);
        rest("one soft, with an open FUNERAL", bereaved("TP902P902P902", 1, 2), 0, 1, 1, 0);
    }

    private static void chance(String what, BorrowedTears tears, int x, int above, int below) {
        Due.due("chance(" + x + "), " + what + ": above", tears.chance(x, true), above);
        Due.due("chance(" + x + "), " + what + ": below", tears.chance(x, false), below);
    }

    private static void chanceAtEdges() {
        Due.sentence("CHANCE: x tenths (0 .. 10)");
        BorrowedTears tears = Due.landOf(FIVE);
        Due.due("below the least", tears.chance(-1, true), -2);
        Due.due("below the least", tears.chance(-1, false), -2);
        Due.due("beyond the greatest", tears.chance(11, true), -2);
        Due.due("beyond the greatest", tears.chance(11, false), -2);
        chance("none comes, none is open", tears, 0, 1, 1);
        chance("one comes to each", tears, 10, 0, 1);
        chance("two of five at most", tears, 5, 1, 2);
        chance("two of five at most", tears, 9, 107, 12500);
        Due.sentence("CHANCE: nobody there, or all have one open");
        for (int x = 0; x <= 10; x++) {
            chance("nobody there", new BorrowedTears(), x, 1, 1);
            chance("all have one", bereaved(FIVE, 0, 1, 2, 3, 4), x, 0, 1);
            chance("one alone", Due.landOf("TP950"), x, x == 10 ? 0 : new int[] {1, 9, 4, 7, 3, 1, 2, 3, 1, 1}[x],
                    new int[] {1, 10, 5, 10, 5, 2, 5, 10, 5, 10, 1}[x]);
        }
        Due.sentence("CHANCE: to each PERSON that has none open; all that are open then can be SERVED");
        chance("one is open, none comes", bereaved(FIVE, 0), 0, 1, 1);
        chance("three are open, none comes", bereaved(FIVE, 0, 1, 2), 0, 0, 1);
        chance("one is open", bereaved("TP950P950", 0), 3, 7, 10);
        chance("one is open and can't be served", bereaved("TP950P950K01", 0), 3, 0, 1);
        chance("soft ones, to whom one comes", Due.landOf("TP902P902"), 5, 3, 4);
        chance("a soft one, open already", bereaved("TP902P950", 0), 5, 1, 2);
    }

    private static void fractions() {
        Due.sentence("FRACTIONS are told above (upper = true), below, in least terms");
        chance("64 of 100 and 32 of 100", Due.landOf("TP950P950"), 2, 24, 25);
        chance("8 of 10", bereaved("TP950P950", 0), 2, 4, 5);
        chance("nothing to shorten", Due.landOf("TP950P950"), 1, 99, 100);
        chance("a whole", Due.landOf("TP950P950"), 0, 1, 1);
        chance("nothing", Due.landOf("TP950P950"), 10, 0, 1);
        share("6 of 24", bereaved(FIVE, 0), 1, 1, 4);
        share("4 of 6", bereaved(FIVE, 0, 1), 2, 2, 3);
        share("a whole", bereaved(FIVE, 0, 1, 2), 3, 1, 1);
        share("nothing", Due.landOf(FIVE), 3, 0, 1);
    }

    /** The seed that comes next, by numbers without an end, cut to 64 bits then. */
    private static BigInteger next(BigInteger seed) {
        return seed.multiply(new BigInteger("6364136223846793005")).add(new BigInteger("1442695040888963407"))
                .mod(BigInteger.ONE.shiftLeft(64));
    }

    private static int lot(BigInteger seed) {
        return seed.shiftRight(33).mod(BigInteger.valueOf(50)).intValue();
    }

    private static void seedWraps() {
        Due.sentence("THE SEED, a long; 0 at first: 64 bits, wrapping");
        long[] seeds = {0L, 1L, -1L, 2L, Long.MAX_VALUE, Long.MIN_VALUE, Long.MIN_VALUE + 1, 1L << 33, -(1L << 33)};
        Due.due("at first", new BorrowedTears().seed(3L), 0L);
        for (long seed : seeds) {
            BorrowedTears tears = new BorrowedTears();
            tears.seed(seed);
            Due.due("any long is kept", tears.seed(seed), seed);
            Due.due("years of nobody", tears.years(1), 0);
            BigInteger due = next(BigInteger.valueOf(seed));
            Due.due("a year behind " + seed, tears.seed(seed), due.longValue());
            tears.years(20);
            due = BigInteger.valueOf(seed);
            for (int year = 0; year < 20; year++) {
                due = next(due);
            }
            Due.due("twenty years behind " + seed, tears.seed(0L), due.longValue());
        }
        Due.sentence("what is left of its upper 31 bits by 50: with the highest bit and without");
        int highest = 0;
        BorrowedTears tears = Due.landOf("TP950P950");
        for (long seed = 0; seed < 60; seed++) {
            BigInteger after = next(BigInteger.valueOf(seed));
            boolean isWept = lot(after) == 1 || lot(after) == 10;
            highest += isWept && after.testBit(63) ? 1 : 0;
            tears.seed(seed);
            Due.due("a year behind " + seed, tears.years(1), isWept ? 1 : 0);
        }
        Due.due("a year with the highest bit was among them", highest > 0 ? 1 : 0, 1);
    }

    private static void yearsAtEdges() {
        Due.sentence("YEARS: m times (1 .. 20)");
        BorrowedTears tears = Due.landOf(FIVE);
        tears.seed(9L);
        Due.due("years(-1)", tears.years(-1), -2);
        Due.due("years(0)", tears.years(0), -2);
        Due.due("years(21)", tears.years(21), -2);
        Due.due("THE SEED stays when it is refused", tears.seed(9L), 9L);
        Due.due("years(1) is not refused", tears.years(1) >= 0 ? 1 : 0, 1);
        Due.due("years(20) is not refused", tears.years(20) >= 0 ? 1 : 0, 1);
        Due.sentence("YEARS: nothing changes but THE SEED");
        tears = bereaved(FIVE, 2);
        tears.keep(1);
        tears.seed(5L);
        Due.due("somebody was wept for", tears.years(20) > 0 ? 1 : 0, 1);
        Due.due("the seed has changed", tears.seed(0L) == 5L ? 1 : 0, 0);
        BorrowedTears without = bereaved(FIVE, 2);
        without.keep(1);
        Due.same("all else", Due.everything(tears), Due.everything(without));
    }

    private static long seedBefore(int lot, int second) {
        for (long seed = 0; seed < 100000; seed++) {
            BigInteger after = next(BigInteger.valueOf(seed));
            if (lot(after) == lot && (second < 0 || lot(next(after)) == second)) {
                return seed;
            }
        }
        throw new IllegalStateException("no seed for " + lot + ", " + second);
    }

    private static void year(String what, BorrowedTears tears, int lot, int want) {
        tears.seed(seedBefore(lot, -1));
        Due.due("lot " + lot + ": " + what, tears.years(1), want);
    }

    private static void twoYears(String what, BorrowedTears tears, int lot, int second, int want) {
        tears.seed(seedBefore(lot, second));
        Due.due("lots " + lot + ", " + second + ": " + what, tears.years(2), want);
    }

    private static void lotsAtEdges() {
        Due.sentence("what is left by 10 tells another (0 .. 4; 5 .. 9: nobody)");
        BorrowedTears tears = Due.landOf(FIVE);
        for (int lot = 0; lot <= 49; lot++) {
            year("all may", tears, lot, lot % 10 <= 4 && lot % 10 != lot / 10 ? 1 : 0);
        }
        Due.sentence("a FUNERAL of it opens, if there is such a one and it has none");
        tears = Due.landOf("TP950P950");
        year("the last one there", tears, 10, 1);
        year("none there", tears, 20, 0);
        year("none there to weep", tears, 2, 0);
        year("nobody at all", new BorrowedTears(), 0, 0);
        tears = bereaved("TP950P950", 0);
        tears.week();
        tears.week();
        year("one that is open already is wept for", tears, 1, 1);
        tears = bereaved("TP950P900", 0);
        tears.week();
        year("nobody may yet", tears, 1, 0);
        twoYears("it weeps the year behind", tears, 9, 1, 1);
        Due.sentence("YEARS: that other one weeps for the PERSON, if it MAY");
        twoYears("soft, with an open FUNERAL itself", Due.landOf("TP902P902"), 9, 10, 0);
        twoYears("soft, with a later one itself", Due.landOf("TP902P902"), 9, 19, 0);
        twoYears("kin by what it wept", Due.landOf(FIVE), 1, 1, 1);
        twoYears("kin by what it wept, told later", Due.landOf(FIVE), 10, 10, 1);
        twoYears("kin by what it wept, the last one", Due.landOf(FIVE), 34, 34, 1);
        twoYears("an ounce, and none is left", Due.landOf("TP320P950P950"), 10, 20, 1);
        twoYears("as many as may", Due.landOf(FIVE), 10, 20, 2);
        Due.sentence("YEARS: then a WEEK goes by");
        twoYears("old enough a week later", Due.landOf("TP950P910"), 9, 1, 1);
        twoYears("not old enough yet", Due.landOf("TP950P900"), 9, 1, 0);
        twoYears("too little a week later", Due.landOf("TP950P320"), 9, 1, 0);
    }

    private static void slotsAtEdges() {
        Due.sentence("SLOTS 0 .. 1");
        BorrowedTears tears = Due.landOf("TP950");
        tears.week();
        Due.due("below the first", tears.keep(-1), -1);
        Due.due("beyond the last", tears.keep(2), -1);
        Due.due("below the first", tears.again(-1), -1);
        Due.due("beyond the last", tears.again(2), -1);
        Due.due("none were kept", tears.again(0), -3);
        Due.due("none were kept", tears.again(1), -3);
        Due.due("the first", tears.keep(0), 1);
        tears.week();
        Due.due("the last", tears.keep(1), 2);
        tears.week();
        Due.due("the first", tears.again(0), 1);
        Due.due("the last", tears.again(1), 2);
        Due.sentence("SLOTS: nobody can be kept too");
        tears = new BorrowedTears();
        Due.due("keep", tears.keep(1), 0);
        tears.week();
        Due.due("again", tears.again(1), 0);
        Due.due("nobody", tears.about(0), 0);
        Due.sentence("SLOTS: no ACTS when one goes on");
        tears = fullRow();
        tears.keep(0);
        Due.due("keeping leaves the acts", tears.about(4), 14);
        Due.due("again", tears.again(0), 14);
        Due.due("no acts", tears.about(4), 0);
        Due.due("undo", tears.undo(), -3);
        Due.sentence("SLOTS keep SORROWS, KIN, FUNERALS, what is owed, ONIONS, THE WEEK");
        tears = bereaved("TP950P950P950P950", 0, 1);
        tears.weep(2, 0);
        tears.onions(3, 1);
        tears.funeral(2);
        tears.week();
        String stood = Due.standing(tears);
        tears.keep(1);
        tears.onions(0, 2);
        tears.funeral(3);
        tears.week();
        Due.due("again", tears.again(1), 1);
        Due.same("as they were kept", Due.standing(tears), stood);
        tears.week();
        Due.due("again, once more", tears.again(1), 1);
        Due.same("as they were kept", Due.standing(tears), stood);
    }

    private static BorrowedTears fullRow() {
        BorrowedTears tears = Due.landOf("TP950");
        for (int week = 0; week < 14; week++) {
            tears.week();
        }
        return tears;
    }
}

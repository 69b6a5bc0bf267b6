import java.util.function.ToLongFunction;

/** Part 4 of the document's terms: each refusal, which of several is told, and that it changes nothing. */
public final class RefusalsTest {
    private static final int UNKNOWN = -1, BAD = -2, LATE = -3, FULL = -4;
    private static final int[] NO_PERSON = {-1, 5, 6, 31, 256, Integer.MAX_VALUE, Integer.MIN_VALUE};
    private static final int[] FAR = {Integer.MAX_VALUE, Integer.MIN_VALUE};

    private final String text;
    private final boolean withActs;
    private final String stood;

    private RefusalsTest(String text, boolean withActs) {
        this.text = text;
        this.withActs = withActs;
        stood = Due.everything(lived());
    }

    public static void main(String[] args) {
        RefusalsTest faulty = new RefusalsTest("TP120P343K01K0", true);
        RefusalsTest full = new RefusalsTest("TP000P000P000P000P000K01K02K03K04K12K13K14K23K24", true);
        RefusalsTest resting = new RefusalsTest("TP120", false);
        faulty.ofTheLand();
        full.write();
        faulty.ofPeople();
        faulty.funerals();
        faulty.weeping();
        faulty.usingOnions();
        resting.undo();
        faulty.asking();
        faulty.weighing();
        faulty.resting();
        faulty.chances();
        faulty.slots();
        faulty.severalAtOnce();
        full.severalOfWriting();
        ofNobody();
        fullRowOfActs();
        Due.end("RefusalsTest");
    }

    /**
     * Open: 1 and 2. Kin: 0 and 1, 0 and 3, 1 and 4. Ounces: none of 0 to 3, one of 4. Onions: 3.
     * Kept: slot 0 alone.
     */
    private BorrowedTears lived() {
        BorrowedTears tears = Due.landOf("TP950P920P900P993P821K01");
        tears.funeral(0);
        tears.onions(3, 0);
        tears.week();
        tears.keep(0);
        tears.funeral(1);
        tears.weep(4, 1);
        tears.funeral(1);
        tears.funeral(2);
        if (!withActs) {
            tears.keep(0);
            tears.again(0);
        }
        tears.seed(77L);
        Due.tell(tears, text);
        return tears;
    }

    private void refused(String call, int want, ToLongFunction<BorrowedTears> asked) {
        BorrowedTears tears = lived();
        Due.due(call, asked.applyAsLong(tears), want);
        Due.due(call + ", again", asked.applyAsLong(tears), want);
        Due.same("behind " + call, Due.everything(tears), stood);
    }

    private interface OfOne {
        long ask(BorrowedTears tears, int one);
    }

    private interface OfTwo {
        long ask(BorrowedTears tears, int one, int other);
    }

    private void bad(String call, int least, int greatest, OfOne asked) {
        int[] those = {least - 1, greatest + 1, FAR[0], FAR[1]};
        for (int one : those) {
            refused(call + " of " + one, BAD, tears -> asked.ask(tears, one));
        }
        BorrowedTears tears = lived();
        Due.due(call + ", the least", asked.ask(tears, least) == BAD ? 1 : 0, 0);
        Due.due(call + ", the greatest", asked.ask(tears, greatest) == BAD ? 1 : 0, 0);
    }

    private void unknown(String call, OfOne asked) {
        for (int one : NO_PERSON) {
            refused(call + " of " + one, UNKNOWN, tears -> asked.ask(tears, one));
        }
        BorrowedTears tears = lived();
        Due.due(call + ", the first", asked.ask(tears, 0) == UNKNOWN ? 1 : 0, 0);
        Due.due(call + ", the last", asked.ask(tears, 4) == UNKNOWN ? 1 : 0, 0);
    }

    private void unknownOfTwo(String call, OfTwo asked) {
        unknown(call + ", the one", (tears, one) -> asked.ask(tears, one, 2));
        unknown(call + ", the other", (tears, one) -> asked.ask(tears, 4, one));
        unknown(call + ", both", (tears, one) -> asked.ask(tears, one, one));
    }

    private void ofTheLand() {
        Due.sentence("write: BAD");
        bad("write", 0, 255, (tears, one) -> tears.write(one));
        Due.sentence("land: LATE: a FAULT");
        refused("land", LATE, BorrowedTears::land);
        Due.sentence("about: BAD");
        bad("about", 0, 6, BorrowedTears::about);
    }

    private void write() {
        Due.sentence("write: FULL: there are 48");
        for (int letter : new int[] {0, 'T', 'P', '0', 255}) {
            refused("write(" + letter + ")", FULL, tears -> tears.write(letter));
        }
    }

    private void ofPeople() {
        Due.sentence("person: UNKNOWN");
        for (int what = 0; what <= 5; what++) {
            int asked = what;
            unknown("person, " + what, (tears, one) -> tears.person(one, asked));
        }
        Due.sentence("person: BAD");
        for (int person = 0; person <= 4; person++) {
            int asked = person;
            bad("person " + person, 0, 5, (tears, what) -> tears.person(asked, what));
        }
        Due.sentence("owes: UNKNOWN: both");
        unknownOfTwo("owes", BorrowedTears::owes);
    }

    private void funerals() {
        Due.sentence("funeral: UNKNOWN");
        unknown("funeral", BorrowedTears::funeral);
        Due.sentence("funeral: LATE: it has one");
        refused("funeral(1)", LATE, tears -> tears.funeral(1));
        refused("funeral(2)", LATE, tears -> tears.funeral(2));
    }

    private void weeping() {
        Due.sentence("weep: UNKNOWN: person, other");
        unknownOfTwo("weep", BorrowedTears::weep);
        Due.sentence("weep: LATE: it may not");
        refused("weep, not open", LATE, tears -> tears.weep(4, 0));
        refused("weep, kin", LATE, tears -> tears.weep(4, 1));
        refused("weep, too young a sorrow", LATE, tears -> tears.weep(0, 2));
        refused("weep, an actor", LATE, tears -> tears.weep(3, 2));
        refused("weep, an open one itself", LATE, tears -> tears.weep(1, 2));
        refused("weep, itself", LATE, tears -> tears.weep(2, 2));
        refused("weep, itself, none open", LATE, tears -> tears.weep(4, 4));
        Due.due("weep, if it may", lived().weep(4, 2), 1);
    }

    private void usingOnions() {
        Due.sentence("onions: UNKNOWN: person, other");
        unknownOfTwo("onions", BorrowedTears::onions);
        Due.sentence("onions: LATE: it may not");
        refused("onions, not open", LATE, tears -> tears.onions(4, 0));
        refused("onions, kin", LATE, tears -> tears.onions(4, 1));
        refused("onions, an open one itself", LATE, tears -> tears.onions(1, 2));
        refused("onions, itself", LATE, tears -> tears.onions(2, 2));
        refused("onions, itself, none open", LATE, tears -> tears.onions(3, 3));
        Due.due("onions, if it may", lived().onions(0, 2), 2);
    }

    private void undo() {
        Due.sentence("undo: LATE: there is none");
        refused("undo", LATE, BorrowedTears::undo);
    }

    private void asking() {
        Due.sentence("served: BAD");
        bad("served", 0, 2, BorrowedTears::served);
        Due.sentence("nobody: BAD");
        bad("nobody", 0, 1, BorrowedTears::nobody);
        Due.sentence("till: UNKNOWN: person, other");
        unknownOfTwo("till", BorrowedTears::till);
        Due.sentence("net: UNKNOWN");
        unknown("net", BorrowedTears::net);
        Due.sentence("share: UNKNOWN");
        unknown("share, above", (tears, one) -> tears.share(one, true));
        unknown("share, below", (tears, one) -> tears.share(one, false));
    }

    private void weighing() {
        Due.sentence("weighed: BAD: people (bits of PEOPLE that there are), sum, what");
        for (int what = 0; what <= 2; what++) {
            int asked = what;
            bad("weighed, people, " + what, 0, 31, (tears, people) -> tears.weighed(people, 2, asked));
            bad("weighed, sum, " + what, 0, 45, (tears, sum) -> tears.weighed(31, sum, asked));
        }
        bad("weighed, what", 0, 2, (tears, what) -> tears.weighed(31, 2, what));
        Due.sentence("whose: BAD: w");
        bad("whose", 1, 9, BorrowedTears::whose);
    }

    private void resting() {
        Due.sentence("rests: UNKNOWN: person, other, third");
        unknown("rests, person", (tears, one) -> tears.rests(one, 3, 2, 0));
        unknown("rests, other", (tears, one) -> tears.rests(3, one, 2, 0));
        unknown("rests, third", (tears, one) -> tears.rests(1, 3, one, 1));
        Due.sentence("rests: BAD: two of them are one");
        refused("rests(4, 4, 2, 0)", BAD, tears -> tears.rests(4, 4, 2, 0));
        refused("rests(2, 4, 2, 0)", BAD, tears -> tears.rests(2, 4, 2, 0));
        refused("rests(4, 2, 2, 1)", BAD, tears -> tears.rests(4, 2, 2, 1));
        refused("rests(2, 2, 2, 1)", BAD, tears -> tears.rests(2, 2, 2, 1));
        Due.sentence("rests: BAD: what");
        bad("rests, what", 0, 1, (tears, what) -> tears.rests(0, 4, 2, what));
        Due.sentence("rests: LATE: the third one has no open FUNERAL");
        refused("rests(1, 2, 0, 0)", LATE, tears -> tears.rests(1, 2, 0, 0));
        refused("rests(4, 3, 0, 1)", LATE, tears -> tears.rests(4, 3, 0, 1));
        refused("rests(1, 2, 4, 1)", LATE, tears -> tears.rests(1, 2, 4, 1));
    }

    private void chances() {
        Due.sentence("chance: BAD: x");
        bad("chance, above", 0, 10, (tears, x) -> tears.chance(x, true));
        bad("chance, below", 0, 10, (tears, x) -> tears.chance(x, false));
        Due.sentence("years: BAD");
        bad("years", 1, 20, BorrowedTears::years);
    }

    private void slots() {
        Due.sentence("again: UNKNOWN");
        for (int slot : new int[] {-1, 2, 3, Integer.MAX_VALUE, Integer.MIN_VALUE}) {
            refused("again(" + slot + ")", UNKNOWN, tears -> tears.again(slot));
        }
        Due.sentence("keep: UNKNOWN");
        for (int slot : new int[] {-1, 2, 3, Integer.MAX_VALUE, Integer.MIN_VALUE}) {
            refused("keep(" + slot + ")", UNKNOWN, tears -> tears.keep(slot));
        }
        Due.sentence("again: LATE: none were kept");
        refused("again(1)", LATE, tears -> tears.again(1));
    }

    private void severalAtOnce() {
        Due.sentence("Of several what is told first: person: UNKNOWN ahead of BAD");
        refused("person(5, 6)", UNKNOWN, tears -> tears.person(5, 6));
        refused("person(-1, -1)", UNKNOWN, tears -> tears.person(-1, -1));
        Due.sentence("Of several what is told first: weep, onions: UNKNOWN ahead of LATE");
        refused("weep(1, 5)", UNKNOWN, tears -> tears.weep(1, 5));
        refused("weep(-1, 0)", UNKNOWN, tears -> tears.weep(-1, 0));
        refused("onions(1, 5)", UNKNOWN, tears -> tears.onions(1, 5));
        refused("onions(-1, 0)", UNKNOWN, tears -> tears.onions(-1, 0));
        Due.sentence("Of several what is told first: rests: UNKNOWN ahead of BAD");
        refused("rests(5, 5, 2, 0)", UNKNOWN, tears -> tears.rests(5, 5, 2, 0));
        refused("rests(0, 0, 5, 0)", UNKNOWN, tears -> tears.rests(0, 0, 5, 0));
        refused("rests(2, -1, 2, 0)", UNKNOWN, tears -> tears.rests(2, -1, 2, 0));
        refused("rests(-1, 2, 2, 0)", UNKNOWN, tears -> tears.rests(-1, 2, 2, 0));
        refused("rests(5, 0, 2, 2)", UNKNOWN, tears -> tears.rests(5, 0, 2, 2));
        refused("rests(0, 5, 2, -1)", UNKNOWN, tears -> tears.rests(0, 5, 2, -1));
        refused("rests(0, 4, 5, 2)", UNKNOWN, tears -> tears.rests(0, 4, 5, 2));
        Due.sentence("Of several what is told first: rests: UNKNOWN ahead of LATE");
        refused("rests(5, 4, 0, 0)", UNKNOWN, tears -> tears.rests(5, 4, 0, 0));
        refused("rests(4, 5, 0, 0)", UNKNOWN, tears -> tears.rests(4, 5, 0, 0));
        Due.sentence("Of several what is told first: rests: BAD ahead of LATE");
        refused("rests(4, 4, 0, 0)", BAD, tears -> tears.rests(4, 4, 0, 0));
        refused("rests(0, 4, 0, 1)", BAD, tears -> tears.rests(0, 4, 0, 1));
        refused("rests(4, 0, 0, 1)", BAD, tears -> tears.rests(4, 0, 0, 1));
        refused("rests(1, 4, 0, 2)", BAD, tears -> tears.rests(1, 4, 0, 2));
        refused("rests(1, 4, 3, -1)", BAD, tears -> tears.rests(1, 4, 3, -1));
        Due.sentence("Of several what is told first: weighed: BAD ahead of NONE");
        refused("weighed(0, 1, 3)", BAD, tears -> tears.weighed(0, 1, 3));
        refused("weighed(0, 46, 1)", BAD, tears -> tears.weighed(0, 46, 1));
        refused("weighed(32, 45, 2)", BAD, tears -> tears.weighed(32, 45, 2));
    }

    private void severalOfWriting() {
        Due.sentence("Of several what is told first: write: BAD ahead of FULL");
        refused("write(256), full", BAD, tears -> tears.write(256));
        refused("write(-1), full", BAD, tears -> tears.write(-1));
    }

    private static void ofNobody() {
        Due.sentence("UNKNOWN (there is no such PERSON): nobody there");
        BorrowedTears tears = new BorrowedTears();
        Due.due("person(0, 0)", tears.person(0, 0), UNKNOWN);
        Due.due("owes(0, 0)", tears.owes(0, 0), UNKNOWN);
        Due.due("funeral(0)", tears.funeral(0), UNKNOWN);
        Due.due("weep(0, 0)", tears.weep(0, 0), UNKNOWN);
        Due.due("onions(0, 0)", tears.onions(0, 0), UNKNOWN);
        Due.due("till(0, 0)", tears.till(0, 0), UNKNOWN);
        Due.due("net(0)", tears.net(0), UNKNOWN);
        Due.due("share(0)", tears.share(0, true), UNKNOWN);
        Due.due("rests(0, 0, 0, 2)", tears.rests(0, 0, 0, 2), UNKNOWN);
        Due.due("again(2), none were kept", tears.again(2), UNKNOWN);
        Due.same("behind all of them", Due.everything(tears), Due.everything(new BorrowedTears()));
    }

    private static void fullRowOfActs() {
        Due.sentence("What is refused changes nothing: a full row of ACTS forgets none");
        BorrowedTears tears = Due.landOf("TP950P950K01");
        for (int week = 0; week < 13; week++) {
            tears.week();
        }
        tears.funeral(0);
        Due.due("funeral", tears.funeral(0), LATE);
        Due.due("funeral", tears.funeral(2), UNKNOWN);
        Due.due("weep", tears.weep(1, 0), LATE);
        Due.due("weep", tears.weep(1, 2), UNKNOWN);
        Due.due("onions", tears.onions(1, 0), LATE);
        Due.due("onions", tears.onions(2, 0), UNKNOWN);
        for (int left = 13; left >= 0; left--) {
            Due.due("undo", tears.undo(), left);
        }
        Due.due("all of them are undone", tears.about(2), 0);
    }
}

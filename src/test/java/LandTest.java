/** Promises 1 to 8: a new object, the text, the land, what is told of it. */
public final class LandTest {
    public static void main(String[] args) {
        newObject();
        writing();
        faultsOfPeople();
        faultsOfKin();
        faultsOfLaterTexts();
        landing();
        landingAnew();
        aboutAll();
        aboutOne();
        owing();
        Due.end("LandTest");
    }

    private static void newObject() {
        BorrowedTears tears = new BorrowedTears();
        for (int what = 0; what <= 6; what++) {
            Due.due("new: about(" + what + ")", tears.about(what), 0);
        }
        Due.due("new: person", tears.person(0, 0), -1);
        Due.due("new: undo", tears.undo(), -3);
        Due.due("new: again", tears.again(0), -3);
        Due.due("new: again", tears.again(1), -3);
        Due.due("new: seed", tears.seed(7L), 0L);
    }

    private static void writing() {
        BorrowedTears tears = new BorrowedTears();
        Due.due("write(-1)", tears.write(-1), -2);
        Due.due("write(256)", tears.write(256), -2);
        Due.due("write(min)", tears.write(Integer.MIN_VALUE), -2);
        Due.due("write(max)", tears.write(Integer.MAX_VALUE), -2);
        Due.due("wipe of an empty text", tears.wipe(), 0);
        Due.due("write(0)", tears.write(0), 1);
        Due.due("write(255)", tears.write(255), 2);
        for (int length = 3; length <= 48; length++) {
            Due.due("write of the " + length + "th", tears.write('T'), length);
        }
        Due.due("write of the 49th", tears.write('T'), -4);
        Due.due("write of no byte, the 49th", tears.write(256), -2);
        Due.due("about(5), full", tears.about(5), 48);
        Due.due("wipe, full", tears.wipe(), 48);
        Due.due("about(5), wiped", tears.about(5), 0);
        Due.due("fault, wiped", tears.fault(), 0);
        Due.due("write behind wipe", tears.write('T'), 1);
        Due.due("fault of T", tears.fault(), -9);
    }

    private static void fault(String letters, int want) {
        Due.due("fault of " + letters, Due.withText(letters).fault(), want);
    }

    private static void faultsOfPeople() {
        fault("", 0);
        fault("t", 0);
        fault("X", 0);
        fault("P000", 0);
        fault("T", -9);
        fault("TT", 1);
        fault("TX", 1);
        fault("T" + (char) 0, 1);
        fault("T" + (char) 255, 1);
        fault("TP", 2);
        fault("TP0", 3);
        fault("TP00", 4);
        fault("TP000", -9);
        fault("TPa00", 2);
        fault("TP/00", 2);
        fault("TP:00", 2);
        fault("TP0a0", 3);
        fault("TP0/0", 3);
        fault("TP0:0", 3);
        fault("TP00/", 4);
        fault("TP004", 4);
        fault("TP003", -9);
        fault("TP993", -9);
        fault("TP0000", 5);
        fault("TP000T", 5);
        fault("TP000P000P000P000P000", -9);
        fault("TP000P000P000P000P000P", 21);
        fault("TP000P000P000P000P000P000", 21);
        fault("TX" + "TP000", 1);
    }

    private static void faultsOfKin() {
        fault("TK", 1);
        fault("TP000K", 5);
        fault("TP000K01", 5);
        fault("TP000P000K", 10);
        fault("TP000P000K0", 11);
        fault("TP000P000K01", -9);
        fault("TP000P000K1", 10);
        fault("TP000P000K2", 10);
        fault("TP000P000Ka", 10);
        fault("TP000P000K/", 10);
        fault("TP000P000K00", 11);
        fault("TP000P000K02", 11);
        fault("TP000P000K0x", 11);
        fault("TP000P000K01K", 12);
        fault("TP000P000K01P000K0", 18);
        fault("TP000P000K01P000K01", 18);
        fault("TP000P000K01P000K02", -9);
        fault("TP000P000K01P000K10", 18);
        fault("TP000P000K01P000K11", 18);
        fault("TP000P000K01P000K12", -9);
        fault("TP000P000P000K12K1", 17);
        fault("TP000P000P000K01K02K0", 20);
        fault("TP000P000P000K01K02K12K", 22);
        fault("TP000P000P000K2", 14);
        fault("TP000P000P000K03", 15);
        String five = "TP000P000P000P000P000";
        fault(five + "K01K02K03K04K12K13K14K23K24", -9);
        fault(five + "K34K24K23K14K13K12K04K03K02", -9);
        fault(five + "K34K24K23K2", 31);
        fault(five + "K4", 22);
        fault(five + "K32", 23);
    }

    private static void faultsOfLaterTexts() {
        BorrowedTears tears = Due.withText("TP000P000K01");
        Due.due("fault", tears.fault(), -9);
        Due.due("fault asked again", tears.fault(), -9);
        Due.due("land", tears.land(), 2);
        Due.due("land of the same text", tears.land(), 2);
        tears.wipe();
        tears.write('T');
        Due.due("nothing stands behind a shorter text", tears.fault(), -9);
        for (int length = 2; length <= 4; length++) {
            tears.write(length == 2 ? 'P' : '0');
            Due.due("nothing stands behind a half one", tears.fault(), length);
        }
        tears.write('0');
        Due.due("fault", tears.fault(), -9);
    }

    private static void landing() {
        BorrowedTears tears = new BorrowedTears();
        Due.due("land of an empty text", tears.land(), -3);
        Due.due("land of T", Due.withText("T").land(), 0);
        Due.due("land of a half text", Due.withText("TP9").land(), -3);
        tears = Due.landOf("TP950P021K01P423");
        Due.due("sorrow", tears.person(0, 0), 9);
        Due.due("age", tears.person(0, 1), 5);
        Due.due("kind", tears.person(0, 2), 0);
        Due.due("kin", tears.person(0, 3), 2);
        Due.due("sorrow", tears.person(1, 0), 0);
        Due.due("age", tears.person(1, 1), 2);
        Due.due("kind", tears.person(1, 2), 1);
        Due.due("kin", tears.person(1, 3), 1);
        Due.due("kind", tears.person(2, 2), 3);
        Due.due("kin", tears.person(2, 3), 0);
        tears.wipe();
        Due.due("wiping leaves the land", tears.about(0), 3);
        tears.write('X');
        Due.due("fault changes no land", tears.fault(), 0);
        Due.due("land with a fault", tears.land(), -3);
        Due.due("a refused land changes nothing", tears.person(0, 0), 9);
        Due.due("a refused land changes nothing", tears.about(0), 3);
    }

    private static void landingAnew() {
        BorrowedTears tears = Due.landOf("TP950P950P950");
        tears.seed(77L);
        tears.funeral(0);
        tears.weep(1, 0);
        tears.funeral(1);
        tears.onions(2, 1);
        tears.funeral(2);
        tears.week();
        tears.keep(0);
        tears.keep(1);
        Due.due("acts ahead", tears.about(4), 6);
        tears.write('P');
        Due.due("land with a fault", tears.land(), -3);
        Due.due("acts stay", tears.about(4), 6);
        Due.due("what was kept stays", tears.again(0), 1);
        Due.due("open stays", tears.about(1), 4);
        tears.week();
        Due.tell(tears, "TP950P950P950");
        Due.due("land anew", tears.land(), 3);
        Due.same("land anew", Due.standing(tears), Due.standing(Due.landOf("TP950P950P950")));
        Due.due("nobody is dead", tears.about(1), 0);
        Due.due("the week is 0", tears.about(2), 0);
        Due.due("no onions", tears.about(3), 0);
        Due.due("no acts", tears.about(4), 0);
        Due.due("nobody owes", tears.owes(0, 1), 0);
        Due.due("no kin", tears.person(0, 3), 0);
        Due.due("what was kept is gone", tears.again(0), -3);
        Due.due("what was kept is gone", tears.again(1), -3);
        Due.due("undo", tears.undo(), -3);
        Due.due("the seed stays", tears.seed(0L), 77L);
        tears = Due.landOf("TP950P950P950");
        Due.tell(tears, "TP120");
        Due.due("fewer people", tears.land(), 1);
        Due.due("fewer people", tears.person(1, 0), -1);
        Due.due("fewer people", tears.about(6), 1);
        Due.tell(tears, "T");
        Due.due("nobody any more", tears.land(), 0);
        Due.due("nobody any more", tears.about(6), 0);
        tears = Due.landOf("TP950P950P950K01K12");
        Due.tell(tears, "TP950P950P950K02");
        Due.due("other kin", tears.land(), 3);
        Due.due("other kin", tears.person(0, 3), 4);
        Due.due("other kin", tears.person(1, 3), 0);
        Due.due("other kin", tears.person(2, 3), 1);
    }

    private static void aboutAll() {
        BorrowedTears tears = Due.landOf("TP950P340P560P093P992");
        Due.due("people", tears.about(0), 5);
        Due.due("sorrow together", tears.about(6), 26);
        tears.funeral(1);
        tears.funeral(4);
        Due.due("open", tears.about(1), 18);
        tears.week();
        tears.week();
        Due.due("the week", tears.about(2), 2);
        tears.onions(3, 4);
        Due.due("onions", tears.about(3), 8);
        tears.onions(0, 1);
        Due.due("onions", tears.about(3), 9);
        Due.due("acts", tears.about(4), 6);
        Due.due("bytes", tears.about(5), 21);
        Due.due("about(-1)", tears.about(-1), -2);
        Due.due("about(7)", tears.about(7), -2);
        Due.due("about(min)", tears.about(Integer.MIN_VALUE), -2);
        Due.due("about(max)", tears.about(Integer.MAX_VALUE), -2);
    }

    private static void ounces(String letters, int want) {
        Due.due("ounces of " + letters, Due.landOf("T" + letters).person(0, 4), want);
    }

    private static void aboutOne() {
        ounces("P920", 3);
        ounces("P910", 0);
        ounces("P900", 0);
        ounces("P820", 2);
        ounces("P320", 1);
        ounces("P220", 0);
        ounces("P921", 2);
        ounces("P911", 0);
        ounces("P791", 1);
        ounces("P821", 2);
        ounces("P421", 1);
        ounces("P321", 0);
        ounces("P902", 4);
        ounces("P102", 0);
        ounces("P202", 1);
        ounces("P992", 4);
        ounces("P993", 0);
        ounces("P923", 0);
        BorrowedTears tears = Due.landOf("TP920P920P920P920P910K03");
        Due.due("for whom, nobody dead", tears.person(0, 5), 0);
        tears.funeral(2);
        tears.funeral(3);
        Due.due("no kin of its own", tears.person(0, 5), 4);
        Due.due("both", tears.person(1, 5), 12);
        Due.due("with a funeral itself", tears.person(2, 5), 0);
        Due.due("with no ounces", tears.person(4, 5), 0);
        tears.funeral(0);
        Due.due("three", tears.person(1, 5), 13);
        Due.due("person(5)", tears.person(5, 0), -1);
        Due.due("person(-1)", tears.person(-1, 0), -1);
        Due.due("person(-1, 9)", tears.person(-1, 9), -1);
        Due.due("person(max)", tears.person(Integer.MAX_VALUE, 0), -1);
        Due.due("person(min)", tears.person(Integer.MIN_VALUE, 0), -1);
        Due.due("person(0, 6)", tears.person(0, 6), -2);
        Due.due("person(0, -1)", tears.person(0, -1), -2);
        Due.due("person(2, 0) bereaved", tears.person(2, 0), 9);
        Due.due("person(2, 1) bereaved", tears.person(2, 1), 0);
    }

    private static void owing() {
        BorrowedTears tears = Due.landOf("TP920P920P920");
        tears.funeral(0);
        tears.weep(2, 0);
        Due.due("owes", tears.owes(0, 2), 1);
        Due.due("is owed", tears.owes(2, 0), 0);
        Due.due("a third one", tears.owes(0, 1), 0);
        Due.due("itself", tears.owes(0, 0), 0);
        Due.due("owes(0, 3)", tears.owes(0, 3), -1);
        Due.due("owes(3, 0)", tears.owes(3, 0), -1);
        Due.due("owes(-1, 0)", tears.owes(-1, 0), -1);
        Due.due("owes(0, -1)", tears.owes(0, -1), -1);
    }
}

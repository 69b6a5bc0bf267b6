/** Promises 14 to 19: how funerals are served, and what follows from what is owed. */
public final class FuneralsTest {
    public static void main(String[] args) {
        serving();
        leastOunces();
        firstWay();
        longWays();
        nobodyCan();
        kinToAll();
        waiting();
        netting();
        rings();
        shares();
        nothingIsChanged();
        Due.end("FuneralsTest");
    }

    private static void service(String what, BorrowedTears tears, int most, int ounces, int way) {
        Due.due(what + ": most", tears.served(0), most);
        Due.due(what + ": ounces", tears.served(1), ounces);
        Due.due(what + ": way", tears.served(2), way);
    }

    private static void serving() {
        BorrowedTears tears = Due.landOf("TP920P920P920");
        service("nobody dead", tears, 0, 0, 0);
        tears.funeral(1);
        service("one", tears, 1, 3, 1);
        tears.funeral(0);
        service("two, and one who may", tears, 1, 3, 3);
        tears.funeral(2);
        service("all", tears, 0, 0, 0);
        Due.due("served(3)", tears.served(3), -2);
        Due.due("served(-1)", tears.served(-1), -2);
        Due.due("served(max)", tears.served(Integer.MAX_VALUE), -2);
    }

    private static void leastOunces() {
        BorrowedTears tears = Due.landOf("TP950P950P320P950");
        tears.funeral(3);
        service("the least", tears, 1, 1, 3);
        tears = Due.landOf("TP902P321P821P950K03K13");
        tears.funeral(3);
        service("the only one", tears, 1, 2, 3);
        tears = Due.landOf("TP950P950P320P920K02K12");
        tears.funeral(0);
        tears.funeral(1);
        service("most ahead of least", tears, 1, 3, 4);
        tears = Due.landOf("TP950P950P320P920K12");
        tears.funeral(0);
        tears.funeral(1);
        service("most, and what it costs", tears, 2, 4, 34);
    }

    private static void firstWay() {
        BorrowedTears tears = Due.landOf("TP950P950P950P950");
        tears.funeral(1);
        tears.funeral(3);
        service("the first one", tears, 2, 6, 13);
        tears = Due.landOf("TP950P950P950P950P950");
        tears.funeral(0);
        tears.funeral(1);
        tears.funeral(2);
        service("the first stays unserved", tears, 2, 6, 45);
        tears = Due.landOf("TP950P950P950P950P950K24");
        tears.funeral(0);
        tears.funeral(1);
        tears.funeral(2);
        service("the last stays unserved no more", tears, 2, 6, 54);
    }

    private static void longWays() {
        BorrowedTears tears = Due.landOf("TP950P950P950P950P950K04K14");
        for (int person = 0; person < 4; person++) {
            tears.funeral(person);
        }
        service("the last one of four", tears, 1, 3, 5);
        tears = Due.landOf("TP950P950P950P950P950K24K34K14");
        for (int person = 0; person < 4; person++) {
            tears.funeral(person);
        }
        service("the first one of four", tears, 1, 3, 5000);
    }

    private static void nobodyCan() {
        BorrowedTears tears = Due.landOf("TP920P920P910P950K03");
        Due.due("nobody dead", tears.nobody(0), 0);
        tears.funeral(3);
        Due.due("one may", tears.nobody(0), 0);
        tears.funeral(1);
        Due.due("kin alone is left for the one", tears.nobody(0), 8);
        tears.week();
        Due.due("another one may then", tears.nobody(0), 0);
        tears.funeral(0);
        tears.funeral(2);
        Due.due("all have one", tears.nobody(0), 15);
        Due.due("nobody(2)", tears.nobody(2), -2);
        Due.due("nobody(-1)", tears.nobody(-1), -2);
    }

    private static void kinToAll() {
        Due.due("of nobody", new BorrowedTears().nobody(1), 0);
        Due.due("one alone", Due.landOf("TP000").nobody(1), 1);
        Due.due("two", Due.landOf("TP000P000").nobody(1), 0);
        Due.due("two kin", Due.landOf("TP000P000K01").nobody(1), 3);
        Due.due("the middle one", Due.landOf("TP000P000P000K01K12").nobody(1), 2);
        Due.due("one of five", Due.landOf("TP000P000P000P000P000K04K14K24K34").nobody(1), 16);
        BorrowedTears tears = Due.landOf("TP920P950");
        tears.funeral(1);
        tears.weep(0, 1);
        Due.due("kin by what was wept", tears.nobody(1), 3);
    }

    private static void waiting() {
        BorrowedTears tears = Due.landOf("TP900P950P920P993P102K24");
        Due.due("no funeral", tears.till(0, 1), -9);
        tears.funeral(1);
        Due.due("now", tears.till(2, 1), 0);
        Due.due("two weeks", tears.till(0, 1), 2);
        Due.due("an actor never", tears.till(3, 1), -9);
        Due.due("too small a sorrow", tears.till(4, 1), -9);
        Due.due("itself", tears.till(1, 1), -9);
        tears.funeral(4);
        Due.due("kin never", tears.till(2, 4), -9);
        Due.due("with a funeral itself", tears.till(4, 1), -9);
        tears.week();
        Due.due("one week", tears.till(0, 1), 1);
        Due.due("till(5, 0)", tears.till(5, 0), -1);
        Due.due("till(0, 5)", tears.till(0, 5), -1);
        Due.due("till(-1, 0)", tears.till(-1, 0), -1);
        Due.due("till(0, -1)", tears.till(0, -1), -1);
        tears = Due.landOf("TP401P301P300P200P950");
        tears.funeral(4);
        Due.due("a hard one", tears.till(0, 4), 2);
        Due.due("a hard one with less", tears.till(1, 4), -9);
        Due.due("three ounces in two weeks", tears.till(2, 4), 2);
        Due.due("two ounces", tears.till(3, 4), -9);
    }

    private static void netting() {
        BorrowedTears tears = Due.landOf("TP950P950P950");
        Due.due("none", tears.net(0), 100);
        tears.funeral(0);
        tears.weep(1, 0);
        tears.funeral(0);
        tears.weep(2, 0);
        tears.funeral(1);
        tears.onions(2, 1);
        Due.due("owes two", tears.net(0), 98);
        Due.due("owed one, owes one", tears.net(1), 100);
        Due.due("owed two", tears.net(2), 102);
        Due.due("net(3)", tears.net(3), -1);
        Due.due("net(-1)", tears.net(-1), -1);
    }

    /** Pairs of one who is bereaved and one who weeps for it by onions. */
    private static BorrowedTears debts(int... pairs) {
        BorrowedTears tears = Due.landOf("TP000P000P000P000P000");
        for (int pair = 0; pair + 1 < pairs.length; pair += 2) {
            tears.funeral(pairs[pair]);
            tears.onions(pairs[pair + 1], pairs[pair]);
        }
        return tears;
    }

    private static void rings() {
        Due.due("none", debts().ring(), 0);
        Due.due("a chain", debts(0, 1, 1, 2, 2, 3, 3, 4).ring(), 0);
        Due.due("three", debts(0, 1, 1, 2, 2, 0).ring(), 7);
        Due.due("the other way round", debts(0, 2, 2, 1, 1, 0).ring(), 7);
        Due.due("three and two that lead to it", debts(0, 1, 1, 2, 2, 0, 3, 0, 4, 3).ring(), 7);
        Due.due("three and two that it leads to", debts(4, 3, 3, 2, 2, 4, 2, 1, 1, 0).ring(), 28);
        Due.due("five", debts(0, 4, 4, 1, 1, 3, 3, 2, 2, 0).ring(), 31);
        Due.due("four", debts(0, 2, 2, 4, 4, 1, 1, 0, 0, 3).ring(), 23);
        Due.due("no ring, all paths forward", debts(0, 1, 0, 2, 1, 2).ring(), 0);
    }

    private static void share(String what, BorrowedTears tears, int person, int above, int below) {
        Due.due(what + ": above", tears.share(person, true), above);
        Due.due(what + ": below", tears.share(person, false), below);
    }

    private static void shares() {
        BorrowedTears tears = Due.landOf("TP950P950P950P950P993K02");
        share("nobody dead", tears, 1, 0, 1);
        tears.funeral(0);
        share("two who may", tears, 1, 1, 2);
        share("two who may", tears, 3, 1, 2);
        share("kin", tears, 2, 0, 1);
        share("an actor", tears, 4, 0, 1);
        share("with a funeral", tears, 0, 0, 1);
        tears = Due.landOf("TP950P950P950P950P950K03");
        tears.funeral(0);
        tears.funeral(1);
        share("one who may for one alone, any two serve both", tears, 3, 2, 3);
        share("two who may for both", tears, 4, 2, 3);
        tears = Due.landOf("TP950P950P950P950P950K02K03");
        tears.funeral(0);
        tears.funeral(1);
        share("two who may for one alone", tears, 2, 1, 2);
        share("two who may for one alone", tears, 3, 1, 2);
        share("the one who may for the other too", tears, 4, 1, 1);
        tears = Due.landOf("TP950P950P950P950P950");
        tears.funeral(2);
        share("four who may", tears, 0, 1, 4);
        tears.funeral(3);
        share("three for two", tears, 1, 2, 3);
        tears = Due.landOf("TP950P950P950P950P950K04K12");
        tears.funeral(4);
        tears.funeral(2);
        share("each may for one but one for both", tears, 0, 2, 3);
        share("each may for one but one for both", tears, 3, 2, 3);
        Due.due("share(5)", tears.share(5, true), -1);
        Due.due("share(-1)", tears.share(-1, false), -1);
    }

    private static void nothingIsChanged() {
        BorrowedTears tears = Due.landOf("TP950P950P900P950P950K03");
        tears.funeral(0);
        tears.funeral(1);
        String stood = Due.standing(tears);
        tears.served(2);
        tears.nobody(0);
        tears.nobody(1);
        tears.till(2, 0);
        tears.till(0, 0);
        tears.net(1);
        tears.ring();
        tears.share(2, true);
        Due.same("nothing is changed", Due.standing(tears), stood);
        Due.due("nor are the acts", tears.about(4), 2);
    }
}

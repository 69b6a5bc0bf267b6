/** Promises 26 and 27: what is kept, and gone on from. */
public final class SlotsTest {
    public static void main(String[] args) {
        keeping();
        refused();
        overwriting();
        noActs();
        Due.end("SlotsTest");
    }

    private static void keeping() {
        BorrowedTears tears = Due.landOf("TP950P921P902P993K01");
        tears.funeral(0);
        tears.week();
        tears.onions(3, 0);
        tears.funeral(2);
        String early = Due.standing(tears);
        Due.due("keep", tears.keep(0), 1);
        Due.due("keeping leaves the acts", tears.about(4), 4);
        Due.same("keeping changes nothing", Due.standing(tears), early);
        tears.weep(1, 2);
        tears.week();
        tears.week();
        tears.funeral(3);
        String late = Due.standing(tears);
        Due.due("keep", tears.keep(1), 3);
        Due.due("again", tears.again(0), 1);
        Due.same("again", Due.standing(tears), early);
        Due.due("again", tears.again(1), 3);
        Due.same("again", Due.standing(tears), late);
        tears.week();
        Due.due("as often as one likes", tears.again(1), 3);
        Due.same("what goes on leaves what was kept", Due.standing(tears), late);
        Due.due("the other slot", tears.again(0), 1);
        Due.same("the other slot", Due.standing(tears), early);
    }

    private static void refused() {
        BorrowedTears tears = Due.landOf("TP950");
        tears.week();
        Due.due("keep(2)", tears.keep(2), -1);
        Due.due("keep(-1)", tears.keep(-1), -1);
        Due.due("keep(max)", tears.keep(Integer.MAX_VALUE), -1);
        Due.due("again(2)", tears.again(2), -1);
        Due.due("again(-1)", tears.again(-1), -1);
        Due.due("none were kept", tears.again(0), -3);
        Due.due("none were kept", tears.again(1), -3);
        Due.due("a refused again leaves the acts", tears.about(4), 1);
        tears.keep(1);
        Due.due("the other one is still empty", tears.again(0), -3);
        Due.due("this one is not", tears.again(1), 1);
    }

    private static void overwriting() {
        BorrowedTears tears = Due.landOf("TP950");
        tears.keep(0);
        tears.week();
        Due.due("keep anew", tears.keep(0), 1);
        tears.week();
        Due.due("again", tears.again(0), 1);
        BorrowedTears empty = new BorrowedTears();
        Due.due("nobody is kept too", empty.keep(0), 0);
        empty.week();
        Due.due("nobody goes on", empty.again(0), 0);
    }

    private static void noActs() {
        BorrowedTears tears = Due.landOf("TP950P950");
        tears.funeral(0);
        tears.week();
        tears.keep(0);
        tears.week();
        Due.due("acts", tears.about(4), 3);
        tears.again(0);
        Due.due("no acts when one goes on", tears.about(4), 0);
        Due.due("undo", tears.undo(), -3);
        tears.week();
        Due.due("undo behind it", tears.undo(), 0);
        Due.due("the week", tears.about(2), 1);
        tears.week();
        tears.undo();
        Due.due("undoing leaves what was kept", tears.again(0), 1);
    }
}

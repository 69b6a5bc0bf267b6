import java.util.Arrays;

/** Promises 22 to 25: two who offer, deaths by chance, the seed and its years. */
public final class ChancesTest {
    public static void main(String[] args) {
        offers();
        offersRefused();
        chances();
        seeds();
        years();
        yearAfterYear();
        yearsChangeNothing();
        Due.end("ChancesTest");
    }

    private static void rest(String what, BorrowedTears tears, int one, int other, int pairs, int first) {
        Due.due(what + ": pairs", tears.rests(one, other, 2, 0), pairs);
        Due.due(what + ": the first", tears.rests(one, other, 2, 1), first);
    }

    private static void offers() {
        BorrowedTears tears = Due.landOf("TP950P950P950P993P950K24");
        tears.funeral(2);
        rest("both may", tears, 0, 1, 3, 22);
        rest("both may, told the other way", tears, 1, 0, 3, 22);
        rest("neither may", tears, 3, 4, 1, 0);
        rest("the first one may", tears, 0, 3, 1, 0);
        rest("the other one may", tears, 3, 0, 1, 0);
        rest("kin", tears, 4, 1, 1, 0);
        tears.funeral(0);
        rest("with a funeral itself", tears, 0, 1, 1, 0);
        rest("the other with a funeral itself", tears, 1, 0, 1, 0);
        String stood = Due.standing(tears);
        tears.rests(0, 1, 2, 0);
        Due.same("nothing is changed", Due.standing(tears), stood);
    }

    private static void offersRefused() {
        BorrowedTears tears = Due.landOf("TP950P950P950");
        Due.due("no funeral", tears.rests(0, 1, 2, 0), -3);
        tears.funeral(2);
        Due.due("what", tears.rests(0, 1, 2, 2), -2);
        Due.due("what", tears.rests(0, 1, 2, -1), -2);
        Due.due("two are one", tears.rests(0, 0, 2, 0), -2);
        Due.due("two are one", tears.rests(0, 2, 2, 0), -2);
        Due.due("two are one", tears.rests(2, 1, 2, 0), -2);
        Due.due("person", tears.rests(3, 1, 2, 0), -1);
        Due.due("other", tears.rests(0, 3, 2, 0), -1);
        Due.due("third", tears.rests(0, 1, 3, 0), -1);
        Due.due("person", tears.rests(-1, 1, 2, 0), -1);
        Due.due("other", tears.rests(0, -1, 2, 0), -1);
        Due.due("third", tears.rests(0, 1, -1, 0), -1);
        Due.due("unknown ahead of bad", tears.rests(3, 3, 2, 9), -1);
        Due.due("bad ahead of late", tears.rests(0, 2, 1, 9), -2);
        Due.due("bad ahead of late", tears.rests(0, 0, 1, 0), -2);
    }

    private static void chance(BorrowedTears tears, int x, int above, int below) {
        Due.due("chance(" + x + "): above", tears.chance(x, true), above);
        Due.due("chance(" + x + "): below", tears.chance(x, false), below);
    }

    private static void chances() {
        BorrowedTears empty = new BorrowedTears();
        chance(empty, 0, 1, 1);
        chance(empty, 10, 1, 1);
        BorrowedTears tears = Due.landOf("TP950P950");
        chance(tears, 0, 1, 1);
        chance(tears, 10, 0, 1);
        chance(tears, 5, 3, 4);
        chance(tears, 1, 99, 100);
        chance(tears, 3, 91, 100);
        tears.funeral(0);
        chance(tears, 0, 1, 1);
        chance(tears, 2, 4, 5);
        tears.funeral(1);
        chance(tears, 0, 0, 1);
        chance(tears, 10, 0, 1);
        chance(Due.landOf("TP950P950K01"), 1, 81, 100);
        chance(Due.landOf("TP993P950"), 5, 1, 2);
        // Of four like ones two at most may have a funeral.
        chance(Due.landOf("TP950P950P950P950"), 5, 11, 16);
        // 59049 and 5 x 6561 and 10 x 729 of 100000.
        chance(Due.landOf("TP950P950P950P950P950"), 1, 12393, 12500);
        Due.due("chance(-1)", tears.chance(-1, true), -2);
        Due.due("chance(11)", tears.chance(11, false), -2);
        Due.due("chance(max)", tears.chance(Integer.MAX_VALUE, false), -2);
    }

    private static void seeds() {
        BorrowedTears tears = new BorrowedTears();
        Due.due("at first", tears.seed(5L), 0L);
        Due.due("what it was", tears.seed(Long.MIN_VALUE), 5L);
        Due.due("what it was", tears.seed(-1L), Long.MIN_VALUE);
        Due.due("what it was", tears.seed(Long.MAX_VALUE), -1L);
        Due.due("what it was", tears.seed(0L), Long.MAX_VALUE);
        Due.due("years of nobody", tears.years(1), 0);
        Due.due("one step", tears.seed(1L), 1442695040888963407L);
        tears.years(1);
        Due.due("one step", tears.seed(0L), 6364136223846793005L + 1442695040888963407L);
        tears.years(0);
        tears.years(21);
        Due.due("refused years leave it", tears.seed(0L), 0L);
    }

    /** A seed whose next lots are those wanted. */
    private static long seedBefore(int... lots) {
        for (long seed = 0; seed < 10000000; seed++) {
            long next = seed;
            int fits = 0;
            while (fits < lots.length) {
                next = next * 6364136223846793005L + 1442695040888963407L;
                if ((next >>> 33) % 50 != lots[fits]) {
                    break;
                }
                fits++;
            }
            if (fits == lots.length) {
                return seed;
            }
        }
        throw new IllegalStateException("no seed for " + Arrays.toString(lots));
    }

    private static void someYears(String what, String land, int want, int... lots) {
        BorrowedTears tears = Due.landOf(land);
        tears.seed(seedBefore(lots));
        Due.due("years, " + what, tears.years(lots.length), want);
    }

    private static void yearAfterYear() {
        someYears("one waits for a week", "TP950P910", 1, 9, 1);
        someYears("too young for two weeks", "TP950P900", 0, 9, 1);
        someYears("kin by what was wept", "TP950P950", 1, 1, 1);
        someYears("wept for by two", "TP950P950P950", 2, 1, 2);
        someYears("one is fresh again", "TP950P950P950", 0, 19, 1);
        someYears("an open funeral stays", "TP950P950P950", 1, 9, 9, 1);
        someYears("one that weeps has less, and wears", "TP950P320P950", 1, 1, 21);
        someYears("one ounce is wept", "TP950P320", 1, 1);
        someYears("by one that there is not", "TP950P950", 0, 2);
        someYears("for one that there is not", "TP950P950", 0, 20, 21, 30, 40);
    }

    private static void year(String what, BorrowedTears tears, int lot, int want) {
        tears.seed(seedBefore(lot));
        Due.due("a year, " + what, tears.years(1), want);
    }

    private static void years() {
        BorrowedTears tears = Due.landOf("TP950P950P910K01");
        for (int lot = 0; lot < 50; lot++) {
            int dead = lot / 10;
            int other = lot % 10;
            boolean weeps = dead <= 2 && other <= 1 && other != dead && dead == 2;
            year("lot " + lot, tears, lot, weeps ? 1 : 0);
        }
        tears = Due.landOf("TP950P950P910");
        tears.funeral(0);
        year("for one that has a funeral", tears, 1, 1);
        year("by one that has a funeral", tears, 10, 0);
        year("by one that may not", tears, 2, 0);
        tears.week();
        year("by one that may by then", tears, 2, 1);
        Due.due("years(0)", tears.years(0), -2);
        Due.due("years(21)", tears.years(21), -2);
        Due.due("years(-1)", tears.years(-1), -2);
        Due.due("years(max)", tears.years(Integer.MAX_VALUE), -2);
    }

    private static void yearsChangeNothing() {
        BorrowedTears tears = Due.landOf("TP950P950P910P902P201");
        tears.funeral(0);
        tears.keep(0);
        String stood = Due.standing(tears);
        tears.seed(12345L);
        int inOneGo = tears.years(20);
        Due.same("years change nothing", Due.standing(tears), stood);
        Due.due("no acts", tears.about(4), 1);
        long after = tears.seed(12345L);
        Due.due("the same again", tears.years(20), inOneGo);
        Due.due("the same seed", tears.seed(12345L), after);
        for (int year = 0; year < 20; year++) {
            tears.years(1);
        }
        Due.due("the seed goes on year by year", tears.seed(3L), after);
        tears.week();
        tears.undo();
        Due.due("undoing leaves the seed", tears.seed(4L), 3L);
        tears.again(0);
        Due.due("going on leaves the seed", tears.seed(0L), 4L);
    }
}

/** The edges that part 1 of the document's terms names, a test of its own for each sentence. */
public final class EdgesOfLandTest {
    private static final String FIVE = "TP000P000P000P000P000";

    public static void main(String[] args) {
        people();
        bytes();
        landOfText();
        eachByteOfPersons();
        eachByteOfKin();
        faultPlaces();
        atFirst();
        madeAnew();
        funerals();
        ounces();
        whoMay();
        wept();
        onions();
        weeks();
        rowOfActs();
        lastActUndone();
        allDebtsUndone();
        allSorrow();
        Due.end("EdgesOfLandTest");
    }

    private static void fault(String letters, int want) {
        Due.due("fault of " + letters, Due.withText(letters).fault(), want);
    }

    private static void people() {
        Due.sentence("PEOPLE are 0, 1, .. (5 at most)");
        for (int size = 0; size <= 5; size++) {
            BorrowedTears tears = Due.landOf("T" + "P120".repeat(size));
            Due.due("how many", tears.about(0), size);
            for (int person = 0; person < size; person++) {
                Due.due("person " + person + " of " + size, tears.person(person, 0), 1);
            }
            Due.due("one ahead of " + size, tears.person(-1, 0), -1);
            Due.due("one behind " + size, tears.person(size, 0), -1);
        }
        fault("T" + "P120".repeat(6), 21);
        fault("T" + "P120".repeat(5) + "K34P120", 24);
        Due.due("land of six", Due.withText("T" + "P120".repeat(6)).land(), -3);
    }

    private static void bytes() {
        Due.sentence("THE TEXT is bytes (48 at most)");
        BorrowedTears tears = Due.withText(FIVE + "K01K02K03K04K12K13K14K23K24");
        Due.due("48 bytes", tears.about(5), 48);
        Due.due("the 49th", tears.write('K'), -4);
        Due.due("still 48 bytes", tears.about(5), 48);
        Due.due("no fault in 48 bytes", tears.fault(), -9);
        Due.due("land of 48 bytes", tears.land(), 5);
        Due.due("the last kin told", tears.person(2, 3), 1 + 2 + 8 + 16);
        Due.due("all that were there", tears.wipe(), 48);
        Due.due("one again", tears.write('T'), 1);
        Due.sentence("A byte (0 .. 255) comes behind THE TEXT");
        tears = new BorrowedTears();
        Due.due("below the least", tears.write(-1), -2);
        Due.due("beyond the greatest", tears.write(256), -2);
        Due.due("none has come", tears.about(5), 0);
        for (int letter = 0; letter <= 255; letter++) {
            tears.wipe();
            Due.due("write(" + letter + ")", tears.write(letter), 1);
        }
    }

    private static void landOfText() {
        Due.sentence("A LAND is a TEXT: T, then PARTS, none or more");
        for (int letter = 0; letter <= 255; letter++) {
            fault("" + (char) letter, letter == 'T' ? -9 : 0);
            boolean isPart = letter == 'P';
            fault("T" + (char) letter, isPart ? 2 : 1);
        }
        Due.due("no parts", Due.withText("T").land(), 0);
        Due.due("one part", Due.withText("TP000").land(), 1);
        Due.sentence("an empty text");
        BorrowedTears tears = new BorrowedTears();
        Due.due("its fault", tears.fault(), 0);
        Due.due("it is no land", tears.land(), -3);
        Due.due("its length", tears.wipe(), 0);
        tears = Due.landOf("TP950");
        tears.wipe();
        Due.due("wiped, it is no land", tears.land(), -3);
        Due.due("wiped, it leaves the land", tears.person(0, 0), 9);
    }

    private static boolean isFrom0To(int most, int letter) {
        return letter >= '0' && letter <= '0' + most;
    }

    private static void eachByteOfPersons() {
        Due.sentence("Psak: SORROW s (0 .. 9), a (0 .. 9) WEEKS old, KIND k (0 .. 3)");
        for (int letter = 0; letter <= 255; letter++) {
            fault("TP" + (char) letter, isFrom0To(9, letter) ? 3 : 2);
            fault("TP0" + (char) letter, isFrom0To(9, letter) ? 4 : 3);
            fault("TP00" + (char) letter, isFrom0To(3, letter) ? -9 : 4);
            fault("TP000" + (char) letter, letter == 'P' ? 6 : 5);
        }
        for (int figure = 0; figure <= 9; figure++) {
            Due.due("sorrow", Due.landOf("TP" + figure + "00").person(0, 0), figure);
            Due.due("age", Due.landOf("TP0" + figure + "0").person(0, 1), figure);
        }
        for (int kind = 0; kind <= 3; kind++) {
            Due.due("kind", Due.landOf("TP00" + kind).person(0, 2), kind);
        }
    }

    private static void eachByteOfKin() {
        Due.sentence("Kij: both told ahead");
        for (int letter = 0; letter <= 255; letter++) {
            fault("TP000P000P000K" + (char) letter, isFrom0To(1, letter) ? 15 : 14);
            fault("TP000P000P000K0" + (char) letter, letter == '1' || letter == '2' ? -9 : 15);
            fault("TP000P000P000" + (char) letter, letter == 'P' || letter == 'K' ? 14 : 13);
        }
        fault("TK01P000P000", 1);
        fault("TP000K01P000", 5);
        fault("TP000P000K02P000", 11);
        fault(FIVE + "K34", -9);
        fault(FIVE + "K35", 23);
        Due.sentence("Kij: j more than i");
        for (int i = 0; i <= 4; i++) {
            for (int j = 0; j <= 4; j++) {
                fault(FIVE + "K" + i + j, i == 4 ? 22 : j > i ? -9 : 23);
            }
        }
        Due.sentence("Kij: no such pair so far");
        for (int i = 0; i <= 2; i++) {
            for (int j = i + 1; j <= 4; j++) {
                fault(FIVE + "K" + i + j + "K" + i + j, 26);
            }
        }
        fault(FIVE + "K34K34", 25);
        fault(FIVE + "K34K24", -9);
        fault("TP000P000K01K", 12);
        fault("TP000P000K01P000K0", 18);
        Due.sentence("Kij: PEOPLE i and j are KIN");
        BorrowedTears tears = Due.landOf(FIVE + "K04");
        Due.due("the first one's", tears.person(0, 3), 16);
        Due.due("the last one's", tears.person(4, 3), 1);
        Due.due("another one's", tears.person(1, 3), 0);
    }

    private static void faultPlaces() {
        Due.sentence("FAULT: the place of the first byte by which THE TEXT can be no LAND");
        fault("XX", 0);
        fault("TXX", 1);
        fault("TPXX", 2);
        fault("TP0XX", 3);
        fault("TP00XX", 4);
        fault("TP000XX", 5);
        fault("TP000P000KXX", 10);
        fault("TP000P000K0XX", 11);
        fault(FIVE + "P", 21);
        Due.sentence("FAULT: whatever came behind it: a K that nothing can come behind");
        fault("TK", 1);
        fault("TP000K", 5);
        fault(FIVE + "K01K02K03K04K0", 34);
        fault(FIVE + "K34K3", 25);
        Due.sentence("FAULT: its length, if it is only not at its end");
        String whole = FIVE + "K01K34";
        for (int length = 0; length <= whole.length(); length++) {
            boolean isAtEnd = length == 1 || length > 1 && length <= 21 && length % 4 == 1 || length == 24 || length == 27;
            fault(whole.substring(0, length), isAtEnd ? -9 : length);
        }
        fault(FIVE + "K01K02K03K04K12K13K14K23K", 46);
        fault(FIVE + "K01K02K03K04K12K13K14K23K2", 47);
    }

    private static void atFirst() {
        Due.sentence("At first there is nobody");
        BorrowedTears tears = new BorrowedTears();
        for (int what = 0; what <= 6; what++) {
            Due.due("about(" + what + ")", tears.about(what), 0);
        }
        Due.due("the first person", tears.person(0, 0), -1);
        Due.due("its funeral", tears.funeral(0), -1);
        Due.due("a week", tears.week(), 1);
        Due.due("undone", tears.undo(), 0);
        Due.due("undone again", tears.undo(), -3);
        Due.due("nothing is kept", tears.again(0), -3);
        Due.due("nothing is kept", tears.again(1), -3);
        Due.due("the seed", tears.seed(1L), 0L);
    }

    private static void madeAnew() {
        Due.sentence("When THE LAND is made anew, nobody is dead, nobody owes, THE WEEK is 0");
        BorrowedTears tears = Due.landOf("TP950P950P953");
        tears.funeral(0);
        tears.weep(1, 0);
        tears.funeral(1);
        tears.onions(2, 1);
        tears.funeral(2);
        tears.week();
        tears.keep(0);
        tears.keep(1);
        tears.seed(5L);
        Due.due("the same land again", tears.land(), 3);
        Due.due("nobody is dead", tears.about(1), 0);
        Due.due("the week", tears.about(2), 0);
        for (int person = 0; person < 3; person++) {
            Due.due("its sorrow", tears.person(person, 0), 9);
            Due.due("its age", tears.person(person, 1), 5);
            Due.due("its kin", tears.person(person, 3), 0);
            for (int other = 0; other < 3; other++) {
                Due.due("owes", tears.owes(person, other), 0);
            }
        }
        madeAnewWithFewer();
        Due.sentence("land: no ACTS; what was kept is gone; THE SEED stays");
        Due.due("acts", tears.about(4), 0);
        Due.due("undo", tears.undo(), -3);
        Due.due("the first slot", tears.again(0), -3);
        Due.due("the other slot", tears.again(1), -3);
        Due.due("the seed", tears.seed(0L), 5L);
        Due.due("the text stays", tears.about(5), 13);
    }

    private static void madeAnewWithFewer() {
        BorrowedTears fewer = Due.landOf("TP950P950P950K01K12");
        fewer.funeral(2);
        Due.tell(fewer, "TP120P340");
        Due.due("fewer people", fewer.land(), 2);
        Due.due("all their sorrow", fewer.about(6), 4);
        Due.due("nobody is dead", fewer.about(1), 0);
        Due.due("no kin", fewer.person(1, 3), 0);
        Due.tell(fewer, "T");
        Due.due("nobody any more", fewer.land(), 0);
        Due.due("no sorrow", fewer.about(6), 0);
    }

    private static void funerals() {
        Due.sentence("BEREAVED: its SORROW is 9, 0 WEEKS old, and its FUNERAL is open");
        BorrowedTears tears = Due.landOf("TP000P990P591P302P123");
        for (int person = 0; person < 5; person++) {
            Due.due("open then", tears.funeral(person), person + 1);
            Due.due("sorrow", tears.person(person, 0), 9);
            Due.due("age", tears.person(person, 1), 0);
            Due.due("open", tears.about(1), (2 << person) - 1);
        }
        Due.sentence("One has no other as long as it is open");
        for (int person = 0; person < 5; person++) {
            Due.due("another one", tears.funeral(person), -3);
        }
        tears.week();
        Due.due("another one, a week later", tears.funeral(0), -3);
        Due.sentence("its FUNERAL is open (till it is wept for)");
        tears = Due.landOf("TP950P950P993");
        tears.funeral(0);
        tears.week();
        Due.due("a week leaves it", tears.about(1), 1);
        tears.weep(1, 0);
        Due.due("wept for", tears.about(1), 0);
        Due.due("another one then", tears.funeral(0), 1);
        tears.onions(2, 0);
        Due.due("by onions", tears.about(1), 0);
        Due.due("another one then", tears.funeral(0), 1);
    }

    private static void ounces() {
        Due.sentence("OUNCES: a third (down) if 2 WEEKS old or older; HARD a quarter; SOFT a half, of any age; ACTOR none");
        int[][] old = {
            {0, 0, 0, 1, 1, 1, 2, 2, 2, 3}, {0, 0, 0, 0, 1, 1, 1, 1, 2, 2}, {0, 0, 1, 1, 2, 2, 3, 3, 4, 4}, new int[10]};
        for (int kind = 0; kind <= 3; kind++) {
            for (int sorrow = 0; sorrow <= 9; sorrow++) {
                for (int age = 0; age <= 9; age++) {
                    String letters = "TP" + sorrow + age + kind;
                    int want = age >= 2 || kind == 2 ? old[kind][sorrow] : 0;
                    Due.due("ounces of " + letters, Due.landOf(letters).person(0, 4), want);
                }
            }
        }
    }

    private static void mayFor(String what, BorrowedTears tears, int bits) {
        Due.due(what, tears.person(0, 5), bits);
        Due.due(what + ": weep", tears.weep(0, 1) > 0 ? 1 : 0, bits >> 1 & 1);
    }

    private static void whoMay() {
        Due.sentence("One MAY weep, if the other one's FUNERAL is open, no KIN, no open FUNERAL itself, OUNCES 1 or more");
        BorrowedTears tears = Due.landOf("TP320P000");
        mayFor("none is open", tears, 0);
        tears.funeral(1);
        mayFor("one ounce", tears, 2);
        tears = Due.landOf("TP220P000");
        tears.funeral(1);
        mayFor("no ounce", tears, 0);
        tears = Due.landOf("TP320P000K01");
        tears.funeral(1);
        mayFor("kin", tears, 0);
        tears = Due.landOf("TP902P000");
        tears.funeral(1);
        tears.funeral(0);
        mayFor("an open one itself", tears, 0);
        tears = Due.landOf("TP910P000");
        tears.funeral(1);
        mayFor("a week old", tears, 0);
        tears.week();
        mayFor("two weeks old", tears, 2);
    }

    private static void wept() {
        Due.sentence("WEPT: its SORROW is less by its OUNCES; KIN; owes one FUNERAL more; that FUNERAL is closed");
        BorrowedTears tears = Due.landOf("TP202P950P950");
        tears.funeral(1);
        tears.funeral(2);
        Due.due("one ounce", tears.weep(0, 1), 1);
        Due.due("one is left", tears.person(0, 0), 1);
        Due.due("its age stays", tears.person(0, 1), 0);
        Due.due("no ounce is left", tears.person(0, 4), 0);
        Due.due("the other funeral stays", tears.about(1), 4);
        Due.due("it owes one", tears.owes(1, 0), 1);
        Due.due("it is owed none", tears.owes(0, 1), 0);
        Due.due("kin", tears.person(0, 3), 2);
        Due.due("kin of the other one", tears.person(1, 3), 1);
        Due.due("the bereaved one's sorrow stays", tears.person(1, 0), 9);
        Due.due("no more", tears.weep(0, 2), -3);
        Due.due("the most ounces", mostWept(), 4);
    }

    private static int mostWept() {
        BorrowedTears tears = Due.landOf("TP902P950");
        tears.funeral(1);
        return tears.weep(0, 1);
    }

    private static void onions() {
        Due.sentence("ONIONS: whatever its SORROW: nothing wears; KIN; owed; closed; noted");
        for (String letters : new String[] {"P000", "P900", "P220", "P993", "P990"}) {
            BorrowedTears tears = Due.landOf("T" + letters + "P000");
            tears.funeral(1);
            Due.due("onions of " + letters, tears.onions(0, 1), 1);
            Due.due("nothing wears", tears.person(0, 0), letters.charAt(1) - '0');
            Due.due("kin", tears.person(0, 3), 2);
            Due.due("kin", tears.person(1, 3), 1);
            Due.due("owed", tears.owes(1, 0), 1);
            Due.due("closed", tears.about(1), 0);
            Due.due("noted", tears.about(3), 1);
        }
        Due.sentence("ONIONS: KIN and one with an open FUNERAL may not, and none without an open FUNERAL is wept for");
        BorrowedTears tears = Due.landOf("TP990P990P990K01");
        Due.due("none is open", tears.onions(2, 0), -3);
        tears.funeral(0);
        Due.due("kin", tears.onions(1, 0), -3);
        tears.funeral(2);
        Due.due("an open one itself", tears.onions(2, 0), -3);
        Due.due("itself", tears.onions(0, 0), -3);
        Due.due("nobody has used some", tears.about(3), 0);
        Due.sentence("onions: how many used some: all five at most, each told once");
        tears = Due.landOf(FIVE);
        for (int person = 0; person < 5; person++) {
            int other = (person + 1) % 5;
            tears.funeral(other);
            Due.due("how many", tears.onions(person, other), person + 1);
        }
        Due.due("all", tears.about(3), 31);
        tears.funeral(2);
        Due.due("one of them again", tears.onions(0, 2), 5);
    }

    private static void weeks() {
        Due.sentence("A WEEK: all SORROWS are a WEEK older (99 at most)");
        BorrowedTears tears = Due.landOf("TP990");
        for (int age = 10; age <= 99; age++) {
            tears.week();
            Due.due("age", tears.person(0, 1), age);
        }
        tears.week();
        Due.due("not 100", tears.person(0, 1), 99);
        tears.week();
        Due.due("nor later", tears.person(0, 1), 99);
        Due.sentence("of each PERSON whose SORROW is 3 WEEKS old or older then it is 1 less");
        tears = Due.landOf("TP900P911P922P933P980");
        int[][] sorrows = {{9, 9, 8, 8, 8}, {9, 8, 7, 7, 7}, {8, 7, 6, 6, 6}, {7, 6, 5, 5, 5}};
        for (int week = 0; week < sorrows.length; week++) {
            Due.due("the week", tears.week(), week + 1);
            for (int person = 0; person < 5; person++) {
                Due.due("sorrow of " + person, tears.person(person, 0), sorrows[week][person]);
            }
        }
        Due.sentence("1 less (0 at least)");
        tears = Due.landOf("TP120P020");
        tears.week();
        Due.due("none left", tears.person(0, 0), 0);
        Due.due("none less", tears.person(1, 0), 0);
        tears.week();
        Due.due("none less", tears.person(0, 0), 0);
        Due.due("all together", tears.about(6), 0);
    }

    private static void rowOfActs() {
        Due.sentence("ACTS are a row (14 at most; when it is full, the first one is forgotten)");
        for (int acts = 13; acts <= 45; acts++) {
            BorrowedTears tears = Due.landOf("TP990");
            for (int act = 1; act <= acts; act++) {
                tears.week();
                Due.due("acts", tears.about(4), Math.min(14, act));
            }
            for (int left = Math.min(14, acts) - 1; left >= 0; left--) {
                Due.due("undo", tears.undo(), left);
            }
            Due.due("no more of " + acts, tears.undo(), -3);
            Due.due("the week of " + acts, tears.about(2), Math.max(0, acts - 14));
        }
        Due.sentence("the first one is forgotten, whichever act comes");
        for (int kind = 0; kind <= 3; kind++) {
            BorrowedTears tears = fullRow();
            switch (kind) {
                case 0 -> Due.due("funeral", tears.funeral(2), 2);
                case 1 -> Due.due("weep", tears.weep(4, 1), 2);
                case 2 -> Due.due("onions", tears.onions(4, 1), 4);
                default -> Due.due("week", tears.week(), 2);
            }
            for (int left = 13; left >= 0; left--) {
                Due.due("undo", tears.undo(), left);
            }
            Due.due("the first week can't be undone", tears.about(2), 1);
            Due.due("none is left", tears.undo(), -3);
        }
    }

    /** A week and 13 other acts; one funeral is open, and one is left that may weep for it. */
    private static BorrowedTears fullRow() {
        BorrowedTears tears = Due.landOf("TP990P990P990P990P990");
        int[][] onions = {{1, 0}, {2, 0}, {3, 0}, {4, 0}, {2, 1}, {3, 1}};
        tears.week();
        for (int[] pair : onions) {
            tears.funeral(pair[1]);
            tears.onions(pair[0], pair[1]);
        }
        tears.funeral(1);
        Due.due("a full row", tears.about(4), 14);
        return tears;
    }

    private static void lastActUndone() {
        Due.sentence("the last one can be undone: each of the four acts");
        for (int kind = 0; kind <= 3; kind++) {
            BorrowedTears tears = Due.landOf("TP950P320P120P993K03");
            tears.funeral(0);
            tears.onions(2, 0);
            tears.funeral(0);
            String stood = Due.standing(tears);
            switch (kind) {
                case 0 -> Due.due("funeral", tears.funeral(1), 2);
                case 1 -> Due.due("weep", tears.weep(1, 0), 1);
                case 2 -> Due.due("onions", tears.onions(1, 0), 2);
                default -> Due.due("week", tears.week(), 1);
            }
            Due.due("acts", tears.about(4), 4);
            Due.due("undo", tears.undo(), 3);
            Due.same("as it stood ahead of act " + kind, Due.standing(tears), stood);
        }
        Due.sentence("undo: LATE: there is none, and none any more");
        BorrowedTears tears = Due.landOf("TP950");
        Due.due("none yet", tears.undo(), -3);
        tears.funeral(0);
        Due.due("one", tears.undo(), 0);
        Due.due("none any more", tears.undo(), -3);
    }

    private static void allDebtsUndone() {
        Due.sentence("all undone, and gone on from: what each owes each");
        for (int person = 0; person < 5; person++) {
            for (int other = 0; other < 5; other++) {
                if (other != person) {
                    BorrowedTears tears = Due.landOf(FIVE);
                    tears.keep(0);
                    tears.funeral(person);
                    Due.due("onions", tears.onions(other, person), 1);
                    tears.keep(1);
                    Due.due("owes", tears.owes(person, other), 1);
                    Due.due("undo", tears.undo(), 1);
                    Due.due("owes none", tears.owes(person, other), 0);
                    Due.due("open again", tears.about(1), 1 << person);
                    Due.due("none has used some", tears.about(3), 0);
                    Due.due("no kin", tears.person(person, 3), 0);
                    tears.again(1);
                    Due.due("owes again", tears.owes(person, other), 1);
                    tears.again(0);
                    Due.due("owes none again", tears.owes(person, other), 0);
                }
            }
        }
    }

    private static void allSorrow() {
        Due.sentence("about: all SORROW together: none, and the most");
        Due.due("nobody's", Due.landOf("T").about(6), 0);
        Due.due("none", Due.landOf(FIVE).about(6), 0);
        BorrowedTears tears = Due.landOf("TP900P910P921P932P943");
        Due.due("the most", tears.about(6), 45);
        tears.week();
        Due.due("a week later", tears.about(6), 42);
        Due.due("one told", Due.landOf("TP100P020P000P000P000").about(6), 1);
        Due.due("the last one told", Due.landOf("TP000P000P000P000P100").about(6), 1);
    }
}

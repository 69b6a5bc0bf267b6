/** Promises 9 to 13: funerals, what is wept, onions, weeks, all undone. */
public final class ActsTest {
    public static void main(String[] args) {
        funerals();
        weeping();
        whoMayNotWeep();
        usingOnions();
        weeks();
        oldSorrow();
        undoing();
        rowOfActs();
        refusalsAreNoActs();
        Due.end("ActsTest");
    }

    private static void funerals() {
        BorrowedTears tears = Due.landOf("TP020P583P150");
        Due.due("funeral(1)", tears.funeral(1), 1);
        Due.due("its sorrow", tears.person(1, 0), 9);
        Due.due("how old", tears.person(1, 1), 0);
        Due.due("its kind stays", tears.person(1, 2), 3);
        Due.due("funeral(1) again", tears.funeral(1), -3);
        Due.due("funeral(0)", tears.funeral(0), 2);
        Due.due("open", tears.about(1), 3);
        Due.due("funeral(3)", tears.funeral(3), -1);
        Due.due("funeral(-1)", tears.funeral(-1), -1);
        Due.due("funeral(min)", tears.funeral(Integer.MIN_VALUE), -1);
        Due.due("onions(2, 1)", tears.onions(2, 1), 1);
        Due.due("another one when it is closed", tears.funeral(1), 2);
        Due.due("the third one", tears.funeral(2), 3);
    }

    private static void weeping() {
        BorrowedTears tears = Due.landOf("TP920P821P702P950");
        tears.funeral(3);
        Due.due("a third", tears.weep(0, 3), 3);
        Due.due("sorrow is less", tears.person(0, 0), 6);
        Due.due("its age stays", tears.person(0, 1), 2);
        Due.due("the bereaved one's stays", tears.person(3, 0), 9);
        Due.due("kin", tears.person(0, 3), 8);
        Due.due("kin", tears.person(3, 3), 1);
        Due.due("owed", tears.owes(3, 0), 1);
        Due.due("not the other way", tears.owes(0, 3), 0);
        Due.due("closed", tears.about(1), 0);
        Due.due("no onions", tears.about(3), 0);
        tears.funeral(3);
        Due.due("kin may not", tears.weep(0, 3), -3);
        Due.due("a quarter", tears.weep(1, 3), 2);
        tears.funeral(3);
        Due.due("a half", tears.weep(2, 3), 3);
        Due.due("sorrow is less", tears.person(2, 0), 4);
        Due.due("owed", tears.net(3), 97);
        Due.due("fewer ounces the next time", tears.person(0, 4), 2);
    }

    private static void whoMayNotWeep() {
        BorrowedTears tears = Due.landOf("TP920P920P910P993P220K01");
        Due.due("nobody is dead", tears.weep(0, 2), -3);
        tears.funeral(1);
        Due.due("its own", tears.weep(1, 1), -3);
        Due.due("kin", tears.weep(0, 1), -3);
        Due.due("too young a sorrow", tears.weep(2, 1), -3);
        Due.due("an actor", tears.weep(3, 1), -3);
        Due.due("too small a sorrow", tears.weep(4, 1), -3);
        Due.due("no funeral", tears.weep(0, 2), -3);
        Due.due("weep(5, 0)", tears.weep(5, 0), -1);
        Due.due("weep(0, 5)", tears.weep(0, 5), -1);
        Due.due("weep(-1, 0)", tears.weep(-1, 0), -1);
        Due.due("weep(0, -1)", tears.weep(0, -1), -1);
        tears.funeral(2);
        tears.funeral(0);
        Due.due("with a funeral itself", tears.weep(0, 2), -3);
        tears = Due.landOf("TP902P920");
        tears.funeral(0);
        tears.funeral(1);
        Due.due("a soft one with a funeral itself", tears.weep(0, 1), -3);
    }

    private static void usingOnions() {
        BorrowedTears tears = Due.landOf("TP000P993P920P950K02");
        Due.due("nobody is dead", tears.onions(1, 0), -3);
        tears.funeral(0);
        tears.funeral(3);
        Due.due("kin may not", tears.onions(2, 0), -3);
        Due.due("with a funeral itself", tears.onions(3, 0), -3);
        Due.due("its own", tears.onions(0, 0), -3);
        Due.due("onions(4, 0)", tears.onions(4, 0), -1);
        Due.due("onions(0, 4)", tears.onions(0, 4), -1);
        Due.due("onions(-1, 0)", tears.onions(-1, 0), -1);
        Due.due("onions(0, -1)", tears.onions(0, -1), -1);
        Due.due("an actor may", tears.onions(1, 0), 1);
        Due.due("nothing wears", tears.person(1, 0), 9);
        Due.due("kin", tears.person(1, 3), 1);
        Due.due("kin", tears.person(0, 3), 6);
        Due.due("owed", tears.owes(0, 1), 1);
        Due.due("closed", tears.about(1), 8);
        Due.due("noted", tears.about(3), 2);
        Due.due("the same one again", tears.onions(1, 3), 1);
        tears.funeral(3);
        Due.due("another one", tears.onions(2, 3), 2);
        Due.due("nothing wears", tears.person(2, 0), 9);
        Due.due("noted", tears.about(3), 6);
        tears = Due.landOf("TP000P920");
        tears.funeral(1);
        Due.due("with no sorrow at all", tears.onions(0, 1), 1);
    }

    private static void weeks() {
        BorrowedTears tears = Due.landOf("TP910P920P030P133P501");
        Due.due("week", tears.week(), 1);
        Due.due("one week old", tears.person(0, 0), 9);
        Due.due("one week old", tears.person(0, 1), 2);
        Due.due("three weeks old then", tears.person(1, 0), 8);
        Due.due("three weeks old then", tears.person(1, 1), 3);
        Due.due("none is not less", tears.person(2, 0), 0);
        Due.due("actors likewise", tears.person(3, 0), 0);
        Due.due("hard ones likewise", tears.person(4, 0), 5);
        Due.due("week", tears.week(), 2);
        Due.due("all", tears.about(6), 8 + 7 + 0 + 0 + 5);
        Due.due("week", tears.week(), 3);
        Due.due("all", tears.about(6), 7 + 6 + 0 + 0 + 4);
        BorrowedTears empty = new BorrowedTears();
        Due.due("a week of nobody", empty.week(), 1);
        Due.due("a week of nobody", empty.week(), 2);
        Due.due("undone", empty.undo(), 1);
        Due.due("undone", empty.about(2), 1);
    }

    private static void oldSorrow() {
        BorrowedTears tears = Due.landOf("TP990P900");
        for (int week = 1; week <= 120; week++) {
            Due.due("week", tears.week(), week);
            Due.due("99 weeks at most", tears.person(0, 1), Math.min(99, 9 + week));
            Due.due("99 weeks at most", tears.person(1, 1), Math.min(99, week));
        }
        Due.due("nothing left", tears.about(6), 0);
        tears.funeral(0);
        Due.due("young again", tears.person(0, 1), 0);
    }

    private static void undoing() {
        BorrowedTears tears = Due.landOf("TP920P921P902P993K01");
        String[] stood = new String[7];
        stood[0] = Due.standing(tears);
        tears.funeral(3);
        stood[1] = Due.standing(tears);
        tears.weep(2, 3);
        stood[2] = Due.standing(tears);
        tears.week();
        stood[3] = Due.standing(tears);
        tears.funeral(0);
        stood[4] = Due.standing(tears);
        tears.onions(3, 0);
        stood[5] = Due.standing(tears);
        tears.week();
        for (int left = 5; left >= 0; left--) {
            Due.due("undo", tears.undo(), left);
            Due.due("acts left", tears.about(4), left);
            Due.same("as it stood", Due.standing(tears), stood[left]);
        }
        Due.due("undo of none", tears.undo(), -3);
        Due.same("a refused undo", Due.standing(tears), stood[0]);
    }

    private static void rowOfActs() {
        BorrowedTears tears = Due.landOf("TP990P990");
        for (int act = 1; act <= 14; act++) {
            tears.week();
            Due.due("acts", tears.about(4), act);
        }
        for (int act = 15; act <= 40; act++) {
            tears.week();
            Due.due("the first is forgotten", tears.about(4), 14);
        }
        Due.due("undo", tears.undo(), 13);
        Due.due("undo", tears.undo(), 12);
        Due.due("the week", tears.about(2), 38);
        tears.funeral(0);
        Due.due("acts", tears.about(4), 13);
        tears.onions(1, 0);
        Due.due("acts", tears.about(4), 14);
        tears.week();
        Due.due("full again", tears.about(4), 14);
        for (int left = 13; left >= 0; left--) {
            Due.due("undo", tears.undo(), left);
        }
        Due.due("the week that all go back to", tears.about(2), 27);
        Due.due("undo of none", tears.undo(), -3);
        Due.due("no kin", tears.person(0, 3), 0);
    }

    private static void refusalsAreNoActs() {
        BorrowedTears tears = Due.landOf("TP990P993K01");
        tears.funeral(0);
        String stood = Due.standing(tears);
        tears.funeral(0);
        tears.funeral(2);
        tears.weep(1, 0);
        tears.weep(1, 2);
        tears.onions(1, 0);
        tears.onions(2, 0);
        Due.due("acts", tears.about(4), 1);
        Due.same("what is refused", Due.standing(tears), stood);
    }
}

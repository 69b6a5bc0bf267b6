/** Promises 20 and 21: who used onions by what was weighed, whose sorrow it was. */
public final class WeighedTest {
    public static void main(String[] args) {
        ofNobody();
        sets();
        bounds();
        sorrows();
        Due.end("WeighedTest");
    }

    private static void weight(BorrowedTears tears, int people, int sum, int sets, int all, int none) {
        String call = "weighed(" + people + ", " + sum + ")";
        Due.due(call + ": sets", tears.weighed(people, sum, 0), sets);
        Due.due(call + ": in all", tears.weighed(people, sum, 1), all);
        Due.due(call + ": in none", tears.weighed(people, sum, 2), none);
    }

    private static void ofNobody() {
        BorrowedTears empty = new BorrowedTears();
        weight(empty, 0, 0, 1, 0, 0);
        weight(empty, 0, 1, 0, -9, -9);
        Due.due("a person that there is not", empty.weighed(1, 2, 0), -2);
    }

    // Ounces: 3, 2 (hard), 4 (soft), none (an actor), 1.
    private static void sets() {
        BorrowedTears tears = Due.landOf("TP920P821P902P993P320");
        weight(tears, 0, 0, 1, 0, 0);
        weight(tears, 1, 3, 1, 0, 1);
        weight(tears, 1, 2, 1, 1, 0);
        weight(tears, 1, 0, 0, -9, -9);
        weight(tears, 2, 2, 2, 0, 0);
        weight(tears, 8, 0, 1, 0, 8);
        weight(tears, 8, 2, 1, 8, 0);
        weight(tears, 31, 10, 8, 0, 0);
        weight(tears, 31, 13, 2, 24, 5);
        weight(tears, 31, 7, 2, 5, 24);
        weight(tears, 31, 14, 0, -9, -9);
        weight(tears, 31, 6, 0, -9, -9);
        weight(tears, 5, 5, 1, 4, 1);
        weight(tears, 5, 6, 1, 1, 4);
        weight(tears, 9, 3, 1, 0, 9);
        weight(tears, 20, 5, 1, 0, 20);
        weight(Due.landOf("TP920P920P920"), 7, 8, 3, 0, 0);
        weight(Due.landOf("TP920P920P993"), 7, 8, 1, 4, 3);
        tears.funeral(0);
        weight(tears, 1, 0, 1, 0, 1);
        weight(tears, 1, 2, 1, 1, 0);
        weight(tears, 1, 3, 0, -9, -9);
    }

    private static void bounds() {
        BorrowedTears tears = Due.landOf("TP920P920");
        Due.due("people", tears.weighed(4, 2, 0), -2);
        Due.due("people", tears.weighed(-1, 2, 0), -2);
        Due.due("people", tears.weighed(Integer.MIN_VALUE, 2, 0), -2);
        Due.due("people", tears.weighed(Integer.MAX_VALUE, 2, 0), -2);
        Due.due("sum", tears.weighed(3, -1, 0), -2);
        Due.due("sum", tears.weighed(3, 46, 0), -2);
        Due.due("sum, the most", tears.weighed(3, 45, 0), 0);
        Due.due("what", tears.weighed(3, 4, 3), -2);
        Due.due("what", tears.weighed(3, 4, -1), -2);
        Due.due("all", tears.weighed(3, 4, 0), 1);
    }

    private static void sorrows() {
        BorrowedTears tears = Due.landOf("TP920P821P902P993P720");
        Due.due("whose(1)", tears.whose(1), 0);
        Due.due("whose(2)", tears.whose(2), 18);
        Due.due("whose(3)", tears.whose(3), 1);
        Due.due("whose(4)", tears.whose(4), 4);
        Due.due("whose(5)", tears.whose(5), 0);
        Due.due("whose(9)", tears.whose(9), 0);
        Due.due("whose(0)", tears.whose(0), -2);
        Due.due("whose(10)", tears.whose(10), -2);
        Due.due("whose(-1)", tears.whose(-1), -2);
        Due.due("whose(max)", tears.whose(Integer.MAX_VALUE), -2);
        Due.due("of nobody", new BorrowedTears().whose(1), 0);
        tears.funeral(2);
        Due.due("a fresh sorrow, soft", tears.whose(4), 4);
        tears.funeral(0);
        Due.due("a fresh sorrow, plain", tears.whose(3), 0);
    }
}

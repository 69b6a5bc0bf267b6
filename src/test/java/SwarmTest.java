import java.util.Random;

/** All promises: runs of calls drawn by a fixed seed, each answer held against PlainTears. */
public final class SwarmTest {
    private static final int RUNS = 400;
    private static final int CALLS = 512;

    private final Random lots;
    private final BorrowedTears tears = new BorrowedTears();
    private final PlainTears plain = new PlainTears();
    private int calls = 0;

    private SwarmTest(long run) {
        lots = new Random(run);
    }

    public static void main(String[] args) {
        for (int run = 0; run < RUNS; run++) {
            new SwarmTest(run).go();
        }
        Due.end("SwarmTest");
    }

    private void go() {
        while (calls < CALLS) {
            if (calls == 0 || lots.nextInt(60) == 0) {
                tellText();
            }
            switch (lots.nextInt(10)) {
                case 0, 1, 2, 3 -> act();
                case 4, 5 -> ask();
                case 6 -> askOfFunerals();
                case 7 -> askOfChances();
                case 8 -> askOfWeights();
                default -> slot();
            }
        }
    }

    private void due(String call, long got, long want) {
        calls++;
        Due.due(call, got, want);
    }

    private void tellText() {
        due("wipe", tears.wipe(), plain.wipe());
        String letters = lots.nextInt(3) == 0 ? spoilt(landText()) : landText();
        for (int place = 0; place < letters.length(); place++) {
            int letter = letters.charAt(place);
            due("write", tears.write(letter), plain.write(letter));
        }
        due("fault of " + letters, tears.fault(), plain.fault());
        due("land of " + letters, tears.land(), plain.land());
    }

    private String landText() {
        StringBuilder letters = new StringBuilder("T");
        int people = lots.nextInt(8) == 0 ? lots.nextInt(5) : 5;
        int told = 0;
        for (int part = 0; part < people + lots.nextInt(4); part++) {
            if (told < people && (told < 2 || lots.nextInt(3) > 0)) {
                int sorrow = lots.nextInt(3) == 0 ? lots.nextInt(10) : 9 - lots.nextInt(3);
                letters.append('P').append(sorrow).append(lots.nextInt(10)).append(kind());
                told++;
            } else if (told >= 2) {
                int one = lots.nextInt(told - 1);
                int other = one + 1 + lots.nextInt(told - 1 - one);
                String pair = "K" + one + other;
                letters.append(letters.indexOf(pair) < 0 ? pair : "");
            }
        }
        return letters.toString();
    }

    private int kind() {
        return lots.nextInt(2) == 0 ? 0 : lots.nextInt(4);
    }

    private String spoilt(String letters) {
        StringBuilder text = new StringBuilder(letters);
        int place = lots.nextInt(text.length());
        char letter = "TPK01234567899/:pk".charAt(lots.nextInt(18));
        switch (lots.nextInt(5)) {
            case 0 -> text.setLength(place);
            case 1 -> text.setCharAt(place, letter);
            case 2 -> text.deleteCharAt(place);
            case 3 -> text.insert(place, letter);
            default -> text.append(letter).append("K1".charAt(lots.nextInt(2)));
        }
        return text.toString();
    }

    private int one() {
        return lots.nextInt(30) == 0 ? wild() : lots.nextInt(5);
    }

    private int wild() {
        int[] those = {-1, 5, 6, 7, Integer.MAX_VALUE, Integer.MIN_VALUE, 256, 49};
        return those[lots.nextInt(those.length)];
    }

    private int upTo(int most) {
        return lots.nextInt(20) == 0 ? wild() : lots.nextInt(most + 2) - (lots.nextInt(9) == 0 ? 1 : 0);
    }

    private void act() {
        int one = one();
        int other = one();
        switch (lots.nextInt(9)) {
            case 0, 1, 2 -> due("funeral(" + one + ")", tears.funeral(one), plain.funeral(one));
            case 3, 4 -> due("weep(" + one + ", " + other + ")", tears.weep(one, other), plain.weep(one, other));
            case 5 -> due("onions(" + one + ", " + other + ")", tears.onions(one, other), plain.onions(one, other));
            case 6, 7 -> due("week", tears.week(), plain.week());
            default -> {
                for (int times = lots.nextInt(9) == 0 ? 15 : 1; times > 0; times--) {
                    due("undo", tears.undo(), plain.undo());
                }
            }
        }
    }

    private void ask() {
        int one = one();
        int other = one();
        int what = upTo(6);
        switch (lots.nextInt(4)) {
            case 0 -> due("about(" + what + ")", tears.about(what), plain.about(what));
            case 1, 2 -> due("person(" + one + ", " + what + ")", tears.person(one, what), plain.person(one, what));
            default -> due("owes(" + one + ", " + other + ")", tears.owes(one, other), plain.owes(one, other));
        }
    }

    private void askOfFunerals() {
        int one = one();
        int other = one();
        int what = upTo(2);
        boolean upper = lots.nextBoolean();
        switch (lots.nextInt(7)) {
            case 0, 1 -> due("served(" + what + ")", tears.served(what), plain.served(what));
            case 2 -> due("nobody(" + what + ")", tears.nobody(what), plain.nobody(what));
            case 3 -> due("till(" + one + ", " + other + ")", tears.till(one, other), plain.till(one, other));
            case 4 -> due("net(" + one + ")", tears.net(one), plain.net(one));
            case 5 -> due("ring", tears.ring(), plain.ring());
            default -> due("share(" + one + ", " + upper + ")", tears.share(one, upper), plain.share(one, upper));
        }
    }

    private void askOfChances() {
        int one = one();
        int other = one();
        int third = one();
        int what = upTo(1);
        int x = upTo(10);
        int m = upTo(20);
        boolean upper = lots.nextBoolean();
        long v = lots.nextLong();
        switch (lots.nextInt(6)) {
            case 0, 1 -> due("rests(" + one + ", " + other + ", " + third + ", " + what + ")",
                    tears.rests(one, other, third, what), plain.rests(one, other, third, what));
            case 2, 3 -> due("chance(" + x + ", " + upper + ")", tears.chance(x, upper), plain.chance(x, upper));
            case 4 -> due("seed(" + v + ")", tears.seed(v), plain.seed(v));
            default -> due("years(" + m + ")", tears.years(m), plain.years(m));
        }
    }

    private void askOfWeights() {
        int people = upTo(31);
        int sum = lots.nextInt(3) == 0 ? upTo(45) : upTo(12);
        int what = upTo(2);
        int w = upTo(9);
        if (lots.nextInt(4) == 0) {
            due("whose(" + w + ")", tears.whose(w), plain.whose(w));
        } else {
            due("weighed(" + people + ", " + sum + ", " + what + ")",
                    tears.weighed(people, sum, what), plain.weighed(people, sum, what));
        }
    }

    private void slot() {
        int slot = upTo(1);
        if (lots.nextInt(6) < 2) {
            due("again(" + slot + ")", tears.again(slot), plain.again(slot));
        } else if (lots.nextInt(3) == 0) {
            due("keep(" + slot + ")", tears.keep(slot), plain.keep(slot));
        } else {
            act();
        }
    }
}

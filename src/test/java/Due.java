/** What the tests share: answers that are due, and objects with a land told. */
final class Due {
    private static int asked = 0;
    private static int wrong = 0;

    private Due() {
    }

    static void due(String call, long got, long want) {
        asked++;
        if (got != want) {
            wrong++;
            System.out.println(call + " answered " + got + ", due is " + want);
        }
    }

    static BorrowedTears withText(String letters) {
        BorrowedTears tears = new BorrowedTears();
        tell(tears, letters);
        return tears;
    }

    static void tell(BorrowedTears tears, String letters) {
        tears.wipe();
        for (int place = 0; place < letters.length(); place++) {
            due("write in " + letters, tears.write(letters.charAt(place)), place + 1);
        }
    }

    static BorrowedTears landOf(String letters) {
        BorrowedTears tears = withText(letters);
        int people = 0;
        for (int place = 0; place < letters.length(); place++) {
            people += letters.charAt(place) == 'P' ? 1 : 0;
        }
        due("land of " + letters, tears.land(), people);
        return tears;
    }

    /** Every answer that tells how things stand, so that two can be held against each other. */
    static String standing(BorrowedTears tears) {
        StringBuilder all = new StringBuilder();
        for (int what = 0; what <= 6; what++) {
            all.append(what == 4 ? 0 : tears.about(what)).append(' ');
        }
        for (int person = 0; person < tears.about(0); person++) {
            for (int what = 0; what <= 5; what++) {
                all.append(tears.person(person, what)).append(' ');
            }
            for (int other = 0; other < tears.about(0); other++) {
                all.append(tears.owes(person, other)).append(' ');
            }
        }
        return all.toString();
    }

    static void same(String what, String got, String want) {
        asked++;
        if (!got.equals(want)) {
            wrong++;
            System.out.println(what + ": stands " + got + ", due is " + want);
        }
    }

    static void end(String name) {
        System.out.println(name + ": " + asked + " answers, " + wrong + " not as due");
        if (wrong != 0 || asked == 0) {
            System.exit(1);
        }
    }
}

/** What the tests share: answers that are due, and objects with a land told. */
final class Due {
    private static int asked = 0;
    private static int wrong = 0;
    private static String words = "";
    private static int askedBefore = 0;

    private Due() {
    }

    /** What is asked from here on holds this sentence of the document, until the next one is told. */
    static void sentence(String itsWords) {
        endSentence();
        words = itsWords;
        askedBefore = asked;
    }

    private static void endSentence() {
        if (!words.isEmpty() && asked == askedBefore) {
            wrong++;
            System.out.println("[" + words + "] nothing is asked of it");
        }
        words = "";
    }

    private static void tellWrong(String what) {
        wrong++;
        System.out.println((words.isEmpty() ? "" : "[" + words + "] ") + what);
    }

    static void due(String call, long got, long want) {
        asked++;
        if (got != want) {
            tellWrong(call + " answered " + got + ", due is " + want);
        }
    }

    static BorrowedTears withText(String letters) {
        BorrowedTears tears = new BorrowedTears();
        tell(tears, letters);
        return tears;
    }

    static void tell(BorrowedTears tears, String letters) {
        tears.wipe();
        for (int place = 0; place < letters.length(); place++) {
            due("write in " + letters, tears.write(letters.charAt(place)), place + 1);
        }
    }

    static BorrowedTears landOf(String letters) {
        BorrowedTears tears = withText(letters);
        int people = 0;
        for (int place = 0; place < letters.length(); place++) {
            people += letters.charAt(place) == 'P' ? 1 : 0;
        }
        due("land of " + letters, tears.land(), people);
        return tears;
    }

    /** Every answer that tells how things stand, so that two can be held against each other. */
    static String standing(BorrowedTears tears) {
        StringBuilder all = new StringBuilder();
        for (int what = 0; what <= 6; what++) {
            all.append(what == 4 ? 0 : tears.about(what)).append(' ');
        }
        for (int person = 0; person < tears.about(0); person++) {
            for (int what = 0; what <= 5; what++) {
                all.append(tears.person(person, what)).append(' ');
            }
            for (int other = 0; other < tears.about(0); other++) {
                all.append(tears.owes(person, other)).append(' ');
            }
        }
        return all.toString();
    }

    /**
     * How things stand, and what only going on from there shows: the acts behind, what is kept, the
     * seed, the bytes of the text. It uses the object up.
     */
    static String everything(BorrowedTears tears) {
        StringBuilder all = new StringBuilder(standing(tears));
        all.append("; fault ").append(tears.fault()).append("; seed ").append(tears.seed(0L));
        all.append("; acts ").append(tears.about(4));
        for (int left = tears.about(4); left > 0; left--) {
            all.append("; undo ").append(tears.undo()).append(": ").append(standing(tears));
        }
        all.append("; undo ").append(tears.undo());
        for (int slot = 0; slot <= 1; slot++) {
            all.append("; again ").append(tears.again(slot)).append(": ").append(standing(tears));
        }
        all.append("; land ").append(tears.land()).append(": ").append(standing(tears));
        all.append("; write ").append(tears.write('P')).append("; fault ").append(tears.fault());
        return all.append("; wipe ").append(tears.wipe()).toString();
    }

    static void same(String what, String got, String want) {
        asked++;
        if (!got.equals(want)) {
            tellWrong(what + ": stands " + got + ", due is " + want);
        }
    }

    static void end(String name) {
        endSentence();
        System.out.println(name + ": " + asked + " answers, " + wrong + " not as due");
        if (wrong != 0 || asked == 0) {
            System.exit(1);
        }
    }
}

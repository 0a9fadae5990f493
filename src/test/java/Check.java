/** Counts answers that are not as due, and ends the test with exit code 1 if there were some. */
final class Check {
    static final long LEAST = Long.MIN_VALUE;
    static final long BAD_LONG = LEAST + 2, NOT_LONG = LEAST + 3, NULL_LONG = LEAST + 11, INDEX_LONG = LEAST + 12;
    static final int NULL = -11, INDEX = -12, CAST = -13, STORE = -14, SIZE = -15;

    private int wrong = 0;
    private int asked = 0;
    private int sentences = 0;
    private String sentence = "";

    /** The document's words that the answers from here on are due by; a wrong one is told with them. */
    void sentence(String words) {
        sentences++;
        sentence = "'" + words + "': ";
    }

    void due(String call, long got, long want) {
        asked++;
        if (got != want) {
            wrong++;
            if (wrong <= 40) {
                System.out.println(sentence + call + " answered " + got + ", due is " + want);
            }
        }
    }

    void holds(String what, boolean held) {
        due(what, held ? 1 : 0, 1);
    }

    /** Both parts of a fraction that are told by two calls. */
    void parts(String call, long above, long below, long wantAbove, long wantBelow) {
        due(call + " above", above, wantAbove);
        due(call + " below", below, wantBelow);
    }

    void end() {
        String by = sentences == 0 ? "" : " by " + sentences + " sentences";
        System.out.println(asked + " answers" + by + ", " + wrong + " not as due");
        if (wrong != 0) {
            System.exit(1);
        }
    }

    static void type(FormRoom room, int text, String bytes) {
        room.wipe(text);
        for (int i = 0; i < bytes.length(); i++) {
            room.type(text, bytes.charAt(i));
        }
    }

    static void lay(FormRoom room, int s, int format, int... items) {
        room.sheet(s, format, items.length);
        for (int i = 0; i < items.length; i++) {
            room.lay(s, format, i, items[i]);
        }
    }
}

/** Counts and prints the answers that are not as due, and puts texts on an object's tape. */
final class Due {
    private final String name;
    private int asked;
    private int wrong;

    Due(String name) {
        this.name = name;
    }

    void is(String call, long got, long want) {
        asked++;
        if (got != want) {
            wrong++;
            System.out.println(name + ": " + call + " answered " + got + ", due is " + want);
        }
    }

    void is(String call, boolean got, boolean want) {
        is(call, got ? 1 : 0, want ? 1 : 0);
    }

    void finish() {
        System.out.println(name + ": " + asked + " answers, " + wrong + " not as due");
        if (wrong != 0 || asked == 0) {
            System.exit(1);
        }
    }

    /** Puts the text behind what the tape has, by feed and end. */
    static void put(DepotMarch march, int had, String text) {
        for (int i = 0; i < text.length(); i += 20) {
            march.feed(word(text, i), word(text, i + 4), word(text, i + 8), word(text, i + 12), word(text, i + 16));
        }
        march.end(had + text.length());
    }

    /** A text on the empty tape, taken as the orders of a party. */
    static int orders(DepotMarch march, int party, String text) {
        march.end(0);
        put(march, 0, text);
        return march.orders(party);
    }

    static int word(String text, int at) {
        int word = 0;
        for (int i = at; i < at + 4; i++) {
            word = word << 8 | (i < text.length() ? text.charAt(i) & 255 : ' ');
        }
        return word;
    }
}

import java.util.function.IntToLongFunction;

/** What the tests share: telling answers that are not as due, and statutes given as texts. */
final class Checks {
    private final String test;
    private String sentence = "";
    private int wrong;
    private int asked;

    Checks(String test) {
        this.test = test;
    }

    /** The document's sentence that the answers from here on are due by. */
    void says(String words) {
        sentence = " '" + words + "'";
    }

    void due(String call, long got, long want) {
        asked++;
        if (got != want) {
            wrong++;
            System.out.println(test + ":" + sentence + " " + call + " answered " + got + ", due is " + want);
        }
    }

    void due(String call, boolean got, boolean want) {
        due(call, bit(got), bit(want));
    }

    /**
     * The first and the last value that are allowed and those next to them, then the first ones on
     * both sides that aren't, and those farthest out. The call is made on a port of its own each time.
     */
    void range(String call, int least, int most, IntToLongFunction on, IntToLongFunction allowed, long refused) {
        for (int value : new int[] {least, least + 1, most - 1, most}) {
            due(call + " of " + value, on.applyAsLong(value), allowed.applyAsLong(value));
        }
        for (int value : new int[] {least - 1, most + 1, Integer.MIN_VALUE, Integer.MAX_VALUE}) {
            due(call + " of " + value, on.applyAsLong(value), refused);
        }
    }

    /** Prints how it went; ends the program with 1 if an answer was not as due. */
    void end() {
        System.out.println(test + ": " + asked + " answers, " + wrong + " not as due");
        if (wrong != 0 || asked == 0) {
            System.exit(1);
        }
    }

    static long bit(boolean answer) {
        return answer ? 1 : 0;
    }

    /** Feeds a text with blanks behind it, as many as fill the last twenty bytes. */
    static void feedText(StaplePort port, String text) {
        StringBuilder padded = new StringBuilder(text);
        while (padded.length() % 20 != 0) {
            padded.append(' ');
        }
        for (int i = 0; i < padded.length(); i += 20) {
            port.feed(four(padded, i), four(padded, i + 4), four(padded, i + 8),
                    four(padded, i + 12), four(padded, i + 16));
        }
    }

    static int adoptText(StaplePort port, String text) {
        feedText(port, text);
        return port.adopt(text.length());
    }

    static int four(CharSequence text, int at) {
        return (text.charAt(at) & 255) << 24 | (text.charAt(at + 1) & 255) << 16
                | (text.charAt(at + 2) & 255) << 8 | text.charAt(at + 3) & 255;
    }

    /** A port with so many merchants: of man 0, 1, 2, 0, 1 and so on. */
    static StaplePort portWithMerchants(int merchants) {
        StaplePort port = new StaplePort();
        for (int i = 0; i < merchants; i++) {
            port.merchant(i % 3);
        }
        return port;
    }

    /** Loads sacks of a lot by the halves that the port tells. */
    static int loadLot(StaplePort port, int ship, int lot, int sacks) {
        return port.load(ship, port.half(lot, 0), port.half(lot, 1), sacks);
    }
}

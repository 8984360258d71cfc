/** What the tests share: telling a valley as a text, and counting wrong answers. */
final class Told {
    static final String V = "valley law 0 frost 5 odds 3;";

    private final String name;
    private String sentence = "";
    private int asked;
    private int wrong;

    Told(String name) {
        this.name = name;
    }

    /** What is asked from here on: a sentence of the document, of a term (I) or a promise (P1). */
    void says(String where, String words) {
        sentence = " (" + where + ": " + words + ")";
    }

    void due(String call, long got, long want) {
        asked++;
        if (got != want) {
            wrong++;
            System.out.println(name + ": " + call + " answered " + got + ", due is " + want + sentence);
        }
    }

    /** A call with one number. */
    interface Call {
        long of(int number);
    }

    /** Answers to 0, 1, .., as many as are wanted. */
    void each(String call, Call asked, long... want) {
        for (int i = 0; i < want.length; i++) {
            due(call + " of " + i, asked.of(i), want[i]);
        }
    }

    /** One answer to all of these numbers. */
    void same(String call, Call asked, long want, int... numbers) {
        for (int number : numbers) {
            due(call + " of " + number, asked.of(number), want);
        }
    }

    /** Answers one after another. */
    void row(String call, long[] got, long... want) {
        due(call + ": how many", got.length, want.length);
        for (int i = 0; i < Math.min(got.length, want.length); i++) {
            due(call + " of " + i, got[i], want[i]);
        }
    }

    /** Prints the sum and ends the program with 1 if an answer was wrong. */
    void close() {
        System.out.println(name + ": " + asked + " answers, " + wrong + " wrong");
        if (wrong != 0) {
            System.exit(1);
        }
    }

    /** The text in place of what the tape has; it is not read yet. */
    static void tape(SagMemory x, String text) {
        x.end(0);
        for (int i = 0; i < text.length(); i += 20) {
            x.feed(word(text, i), word(text, i + 4), word(text, i + 8), word(text, i + 12), word(text, i + 16));
        }
        x.end(text.length());
    }

    static int tell(SagMemory x, String text) {
        tape(x, text);
        return x.valley();
    }

    static SagMemory of(String text) {
        SagMemory x = new SagMemory();
        int lines = tell(x, text);
        if (lines < 0) {
            throw new IllegalStateException("fault " + x.fault(0) + " at " + x.fault(1) + ": " + text);
        }
        return x;
    }

    /** The LINES of CARTS by one BRIDGE. */
    static String carts(int bridge, int... loads) {
        StringBuilder text = new StringBuilder();
        for (int load : loads) {
            text.append("cart ").append(load).append(" by ").append(bridge).append(";");
        }
        return text.toString();
    }

    static void fill(SagMemory x, int slot, int width, long... numbers) {
        x.row(slot, width, numbers.length);
        for (int i = 0; i < numbers.length; i++) {
            x.write(slot, i, numbers[i]);
        }
    }

    private static int word(String text, int from) {
        int word = 0;
        for (int i = from; i < from + 4; i++) {
            word = word << 8 | (i < text.length() ? text.charAt(i) & 255 : 0);
        }
        return word;
    }
}

import java.util.NoSuchElementException;

/** What the boundary tests have in common: the sentence in hand, answers held against those due, quarries told. */
final class Checks {
    static final Class<?> ARGUMENT = IllegalArgumentException.class;
    static final Class<?> STATE = IllegalStateException.class;
    static final Class<?> NO_SUCH = NoSuchElementException.class;
    static final Class<?> INDEX = IndexOutOfBoundsException.class;
    /** Numbers far outside every range of the document. */
    static final int[] FAR = {Integer.MIN_VALUE, Integer.MIN_VALUE + 1, -1000, 1000, 1 << 30, Integer.MAX_VALUE};

    private static String sentence = "";
    private static int sentences = 0;
    private static int wrong = 0;

    private Checks() {
    }

    interface Call {
        long on();
    }

    interface Asked {
        long of(FrostMason x);
    }

    interface AskedWith {
        long of(int number);
    }

    /** The document's sentence that the checks behind this call are for. */
    static void says(String words) {
        sentence = words;
        sentences++;
    }

    static void is(String call, long due, long got) {
        if (due != got) {
            fail(call + " answered " + got + ", due is " + due);
        }
    }

    static void same(String what, String due, String got) {
        if (!due.equals(got)) {
            fail(what + " is " + got + ", due is " + due);
        }
    }

    static void refuses(String call, Class<?> due, Call made) {
        Class<?> got = null;
        try {
            made.on();
        } catch (RuntimeException e) {
            got = e.getClass();
        }
        if (got != due) {
            fail(call + " threw " + got + ", due is " + due);
        }
    }

    /** Refuses the numbers next to a range on both sides, and those far away. */
    static void refusesOutside(String call, int least, int most, Class<?> due, AskedWith made) {
        refuses(call + " of " + (least - 1), due, () -> made.of(least - 1));
        refuses(call + " of " + (most + 1), due, () -> made.of(most + 1));
        for (int far : FAR) {
            refuses(call + " of " + far, due, () -> made.of(far));
        }
    }

    private static void fail(String words) {
        wrong++;
        System.out.println("\"" + sentence + "\": " + words);
    }

    static void put(FrostMason x, String text) {
        for (int i = 0; i < text.length(); i += 20) {
            int[] n = new int[5];
            for (int j = 0; j < 20; j++) {
                n[j / 4] = n[j / 4] << 8 | (i + j < text.length() ? text.charAt(i + j) : 0);
            }
            x.feed(n[0], n[1], n[2], n[3], n[4]);
        }
    }

    static int tell(FrostMason x, String text) {
        put(x, text);
        return x.quarry(text.length());
    }

    static FrostMason told(String text) {
        FrostMason x = new FrostMason();
        int answer = tell(x, text);
        if (answer < 0) {
            fail("quarry of '" + text + "' answered " + answer + ", the place is " + x.fault());
        }
        return x;
    }

    static void faulty(String text, int kind, int place) {
        FrostMason x = new FrostMason();
        is("quarry of '" + text + "'", kind - 10, tell(x, text));
        is("fault of '" + text + "'", place, x.fault());
        is("blocks behind the fault of '" + text + "'", 0, x.told(0));
    }

    static void faultless(String text) {
        is("fault of '" + text + "'", -1, told(text).fault());
    }

    static String times(int many, String text) {
        return text.repeat(many);
    }

    static void pass(FrostMason x, int nights) {
        for (int i = 0; i < nights; i++) {
            x.night(0, 0);
        }
    }

    /** The SEED behind one DRAW, reckoned without wrapping numbers. */
    static int behind(int seed) {
        long product = (seed & 0xffffffffL) * 1103515245L + 12345L;
        return (int) (product % 4294967296L);
    }

    /** The first seed by which the next DRAW below so many (8 or 4) is this one. */
    static int seedFor(int draw, int below) {
        for (int seed = 0; seed < 100000; seed++) {
            if (((behind(seed) & 0xffffffffL) / 65536) % below == draw) {
                return seed;
            }
        }
        fail("no seed draws " + draw);
        return 0;
    }

    /** All that can be seen of the quarry, its nights, PLAN and RECORDS, but not TAPE, FAULT and IMAGES. */
    static String all(FrostMason x) {
        StringBuilder b = new StringBuilder();
        ask(b, "told", 8, what -> x.told(what));
        for (int i = 0; i < x.told(1); i++) {
            int slot = i;
            ask(b, "slot" + i, 8, what -> x.slot(slot, what));
        }
        for (int i = 0; i < x.told(2); i++) {
            int order = i;
            ask(b, "order" + i, 6, what -> x.order(order, what));
        }
        for (int i = 0; i < x.told(7); i++) {
            int piece = i;
            ask(b, "piece" + i, 6, what -> x.piece(piece, what));
        }
        ask(b, "sums", 8, what -> x.sums(what));
        for (int i = 0; i < x.sums(4); i++) {
            int split = i;
            ask(b, "trace" + i, 4, what -> x.trace(split, what));
        }
        ask(b, "cold", x.told(6), night -> x.cold(night));
        ask(b, "would", 6, what -> x.would(1, what));
        ask(b, "trust", 4, i -> x.trust(i < 2, i % 2));
        int seed = x.seed(0);
        x.seed(seed);
        b.append("rest ").append(seed).append(' ').append(x.undone()).append(' ').append(x.listening());
        b.append(' ').append(x.count(0)).append(' ').append(x.count(1));
        return b.toString();
    }

    private static void ask(StringBuilder b, String name, int many, AskedWith asked) {
        b.append(name);
        for (int i = 0; i < many; i++) {
            b.append(' ').append(asked.of(i));
        }
        b.append("; ");
    }

    /** To be called last by each main method. */
    static void end() {
        System.out.println(sentences + " sentences, " + wrong + " answers are not as due");
        if (wrong != 0) {
            System.exit(1);
        }
    }
}

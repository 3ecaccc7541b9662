import java.util.NoSuchElementException;

/** For each promise of the document some calls with the answers that its words ask for, reckoned by hand. */
public final class PromiseTests {
    private static final Class<?> ARGUMENT = IllegalArgumentException.class;
    private static final Class<?> STATE = IllegalStateException.class;
    private static final Class<?> NO_SUCH = NoSuchElementException.class;
    private static final Class<?> INDEX = IndexOutOfBoundsException.class;
    private static int wrong = 0;
    private static int promise = 0;

    interface Call {
        long on();
    }

    public static void main(String[] args) {
        constants();
        newObject();
        feed();
        quarry();
        faultsOfKindOne();
        tapeBehindTheQuarry();
        faultsOfKindTwo();
        faultsOfKindThree();
        told();
        slot();
        order();
        piece();
        odds();
        seed();
        night();
        nightWithDraws();
        nightAstray();
        nightDeliveries();
        sums();
        trace();
        cold();
        undone();
        left();
        fits();
        plan();
        would();
        promise();
        tonight();
        now();
        deeper();
        thumb();
        tower();
        face();
        images();
        count();
        manyCalls();
        System.out.println(wrong == 0 ? "all promises are kept" : wrong + " answers are not as promised");
        if (wrong != 0) {
            System.exit(1);
        }
    }

    private static void is(String call, long due, long got) {
        if (due != got) {
            wrong++;
            System.out.println("promise " + promise + ": " + call + " answered " + got + ", due is " + due);
        }
    }

    private static void refuses(String call, Class<?> due, Call made) {
        Class<?> got = null;
        try {
            made.on();
        } catch (RuntimeException e) {
            got = e.getClass();
        }
        if (got != due) {
            wrong++;
            System.out.println("promise " + promise + ": " + call + " threw " + got + ", due is " + due);
        }
    }

    private static void put(FrostMason x, String text) {
        for (int i = 0; i < text.length(); i += 20) {
            int[] n = new int[5];
            for (int j = 0; j < 20; j++) {
                n[j / 4] = n[j / 4] << 8 | (i + j < text.length() ? text.charAt(i + j) : 0);
            }
            x.feed(n[0], n[1], n[2], n[3], n[4]);
        }
    }

    private static int tell(FrostMason x, String text) {
        put(x, text);
        return x.quarry(text.length());
    }

    private static FrostMason told(String text) {
        FrostMason x = new FrostMason();
        if (tell(x, text) < 0) {
            wrong++;
            System.out.println("promise " + promise + ": a fault at " + x.fault() + " in " + text);
        }
        return x;
    }

    private static void faulty(String text, int kind, int place) {
        FrostMason x = told("block 5 5 0;water 3;");
        x.night(0, 7);
        is("quarry of '" + text + "'", kind - 10, tell(x, text));
        is("fault of '" + text + "'", place, x.fault());
        is("blocks behind a fault", 1, x.told(0));
        is("water behind a fault", 3, x.told(3));
        is("night behind a fault", 1, x.told(6));
        is("tape behind a fault", 0, x.count(3));
    }

    private static void constants() {
        is("NONE", -1, FrostMason.NONE);
    }

    private static void newObject() {
        promise = 1;
        FrostMason x = new FrostMason();
        int[] due = {0, 0, 0, 12, 9, 30, 0, 0};
        for (int what = 0; what < due.length; what++) {
            is("told(" + what + ")", due[what], x.told(what));
            is("sums(" + what + ")", 0, x.sums(what));
        }
        is("fault", -1, x.fault());
        is("seed", 0, x.seed(0));
        is("restore", -1, x.restore());
        is("clear", 0, x.clear());
        for (int what = 0; what < 4; what++) {
            is("count(" + what + ")", 0, x.count(what));
        }
        is("tower", 0, x.tower());
        is("listening", 0, x.listening());
        refuses("slot", NO_SUCH, () -> x.slot(0, 0));
        refuses("order", NO_SUCH, () -> x.order(0, 0));
        refuses("piece", INDEX, () -> x.piece(0, 0));
        for (int i = 0; i < 30; i++) {
            is("night", 0, x.night(0, -1));
        }
        refuses("a 31st night", STATE, () -> x.night(0, -1));
        is("would", 0, x.would(0, 0));
    }

    private static void feed() {
        promise = 2;
        FrostMason x = new FrostMason();
        for (int i = 1; i <= 30; i++) {
            is("feed", 20 * i, x.feed(0x20202020, 0x20202020, 0x20202020, 0x20202020, 0x20202020));
        }
        is("a 31st feed", -1, x.feed(0, 0, 0, 0, 0));
        is("bytes", 600, x.count(3));
        is("quarry of 600 blanks", 0, x.quarry(600));
        // "thaw" "7;  ": of each number the highest byte comes first.
        x.feed(0x74686177, 0x373b2020, 0x20202020, 0x20202020, 0x20202020);
        is("quarry", 0, x.quarry(20));
        is("thaw", 7, x.told(5));
        x.feed(0xff202020, 0, 0, 0, 0);
        is("a byte of 255", -9, x.quarry(20));
        is("its place", 0, x.fault());
    }

    private static void quarry() {
        promise = 3;
        FrostMason x = told("block 4 3 0;slot 0 0 2 1 3;");
        refuses("n above the tape", ARGUMENT, () -> x.quarry(1));
        refuses("n below 0", ARGUMENT, () -> x.quarry(-1));
        put(x, "water 3;");
        refuses("n above the tape", ARGUMENT, () -> x.quarry(21));
        is("the tape stays", 20, x.count(3));
        x.night(1, 3);
        x.plan(1);
        x.thumb(true, true);
        x.image();
        x.seed(5);
        is("quarry(0)", 0, x.quarry(0));
        is("the tape is empty", 0, x.count(3));
        is("blocks", 0, x.told(0));
        is("night", 0, x.told(6));
        is("pieces", 0, x.told(7));
        is("water is as without", 12, x.told(3));
        is("plan", 0, x.count(0));
        is("records", 0, x.count(1));
        is("images", 0, x.count(2));
        is("seed", 0, x.seed(0));
        is("splits", 0, x.sums(4));
        is("six blocks", 6, tell(x, "block2 2 0;block 2 2 0 ;block  2 2 0;block 2 02 0; block 2 2 0;block 12 12 000001;   "));
        is("stone", 5 * 4 + 144, x.sums(0));
        is("the last counts", 1, tell(x, "water 1;water 2;sledge 3;sledge 4;thaw 5;thaw 6;block 2 2 0;"));
        is("water", 2, x.told(3));
        is("sledge", 4, x.told(4));
        is("thaw", 6, x.told(5));
        StringBuilder sixty = new StringBuilder();
        for (int i = 0; i < 60; i++) {
            sixty.append("thaw9;");
        }
        is("60 clauses", 0, tell(x, sixty.toString()));
        is("60 clauses", 9, x.told(5));
        is("odds of a night one after the other", 0, tell(x, "odds 3 1 4;odds 3 1 3;odds 3 9 1;odds 4 1 8;"));
    }

    private static void faultsOfKindOne() {
        promise = 4;
        faulty("x", 1, 0);
        faulty("  blocks 2 2 0;", 1, 2);
        faulty("blo", 1, 0);
        faulty("clock 2 2 0;", 1, 0);
        faulty("thawz 3;", 1, 0);
        faulty("athaw 3;", 1, 0);
        faulty("Block 2 2 0;", 1, 0);
        faulty(";", 1, 0);
        faulty("3;", 1, 0);
        faulty("thaw 3;;", 1, 7);
        faulty("thaw", 1, 4);
        faulty("thaw  ", 1, 6);
        faulty("thaw ;", 1, 5);
        faulty("thaw 3", 1, 6);
        faulty("thaw 3  ", 1, 8);
        faulty("thaw 3 4;", 1, 7);
        faulty("thaw 3x;", 1, 6);
        faulty("thaw -3;", 1, 5);
        faulty("thaw\t3;", 1, 4);
        faulty("block 2 2;", 1, 9);
        faulty("block 2 block;", 1, 8);
        faulty("thaw 3;" + (char) 200, 1, 7);
    }

    /** What stands on the tape behind the n bytes is not read. */
    private static void tapeBehindTheQuarry() {
        promise = 3;
        String[] texts = {"thaws", "thaw 31;", "thaw 3;", "thaw 3  ;"};
        int[] lengths = {4, 6, 6, 7};
        for (int i = 0; i < texts.length; i++) {
            FrostMason x = new FrostMason();
            put(x, texts[i]);
            is("the first bytes of '" + texts[i] + "'", -9, x.quarry(lengths[i]));
            is("end too early", lengths[i], x.fault());
        }
        FrostMason y = new FrostMason();
        put(y, "thaw 3;thaw 5;");
        is("the first clause", 0, y.quarry(7));
        is("thaw", 3, y.told(5));
        is("the rest is gone", 0, y.count(3));
    }

    private static void faultsOfKindTwo() {
        promise = 4;
        faulty("block 1 2 0;", 2, 6);
        faulty("block 2 13 0;", 2, 8);
        faulty("block 2 2 2;", 2, 10);
        faulty("slot 0 0 1 0 1;", 2, 5);
        faulty("block 3 4 0;slot 1 0 1 0 1;", 2, 17);
        faulty("block 3 4 0;slot 0 2 1 0 1;", 2, 19);
        faulty("block 3 4 0;slot 0 0 0 0 1;", 2, 21);
        faulty("block 3 4 0;slot 0 0 3 0 1;", 2, 21);
        faulty("block 3 4 0;slot 0 0 2 4 1;", 2, 23);
        faulty("block 3 4 0;slot 0 1 4 0 1;", 2, 21);
        faulty("block 3 4 0;slot 0 1 3 3 1;", 2, 23);
        faulty("block 3 4 0;slot 0 1 3 2 0;", 2, 25);
        faulty("block 3 4 0;slot 0 1 3 2 10;", 2, 25);
        faulty("order 13 1 1 0 1;", 2, 6);
        faulty("order 1 0 1 0 1;", 2, 8);
        faulty("order 1 1 0 0 1;", 2, 10);
        faulty("order 1 1 10 0 1;", 2, 10);
        faulty("order 1 1 1 30 1;", 2, 12);
        faulty("order 1 1 1 29 0;", 2, 15);
        faulty("order 1 1 1 29 100;", 2, 15);
        faulty("odds 30 1 1;", 2, 5);
        faulty("odds 0 10 1;", 2, 7);
        faulty("odds 0 1 0;", 2, 9);
        faulty("odds 0 1 8;odds 1 1 8;odds 0 1 1;", 2, 31);
        faulty("water 13;", 2, 6);
        faulty("sledge 10;", 2, 7);
        faulty("thaw 31;", 2, 5);
        faulty("thaw 31", 2, 5);
        faulty("thaw 4294967296;", 2, 5);
        faulty("thaw 18446744073709551617;", 2, 5);
        faulty("thaw 99 thaw;", 2, 5);
        FrostMason x = told("thaw 3;");
        is("no fault", -1, x.fault());
        is("a fault", -8, tell(x, "thaw 40;"));
        refuses("no tape", ARGUMENT, () -> x.quarry(1));
        is("the latest fault stays", 5, x.fault());
        is("an empty quarry", 0, x.quarry(0));
        is("no fault any more", -1, x.fault());
    }

    private static void faultsOfKindThree() {
        promise = 4;
        StringBuilder blocks = new StringBuilder();
        StringBuilder slots = new StringBuilder("block 2 2 0;");
        StringBuilder orders = new StringBuilder();
        StringBuilder odds = new StringBuilder();
        StringBuilder clauses = new StringBuilder();
        for (int i = 0; i < 6; i++) {
            blocks.append("block 2 2 0;");
            slots.append("slot 0 0 1 0 1;slot 0 1 1 0 1;");
            orders.append("order 1 1 1 1 1;");
            odds.append("odds 5 1 1;odds 6 1 1;odds 7 1 1;odds 8 1 1;");
        }
        for (int i = 0; i < 60; i++) {
            clauses.append("thaw 3;");
        }
        FrostMason x = new FrostMason();
        is("6 blocks", 6, tell(x, blocks.toString()));
        is("12 slots", 1, tell(x, slots.toString()));
        is("slots", 12, x.told(1));
        is("6 orders", 0, tell(x, orders.toString()));
        is("24 odds", 0, tell(x, odds.toString()));
        is("60 clauses", 0, tell(x, clauses.toString()));
        faulty(blocks + " block;", 3, blocks.length() + 1);
        faulty(slots + "slot 9 9 9 9 9;", 3, slots.length());
        faulty(orders + "order 0;", 3, orders.length());
        faulty(odds + "odds", 3, odds.length());
        faulty(clauses + "  thaw 3;", 3, clauses.length() + 2);
        faulty(clauses + "water 99;", 3, clauses.length());
        faulty(clauses + "waters", 1, clauses.length());
        faulty(clauses + ";", 1, clauses.length());
        faulty(blocks + "blocks", 1, blocks.length());
    }

    private static void told() {
        promise = 5;
        FrostMason x = told("block 4 3 0;block 2 2 1;slot 0 0 2 1 3;order 2 3 1 5 10;water 4;sledge 5;thaw 6;");
        int[] due = {2, 1, 1, 4, 5, 6, 0, 2};
        for (int what = 0; what < due.length; what++) {
            is("told(" + what + ")", due[what], x.told(what));
        }
        x.night(1, 9);
        is("pieces, taken ones too", 3, x.told(7));
        is("night", 1, x.told(6));
        refuses("told(8)", ARGUMENT, () -> x.told(8));
        refuses("told(-1)", ARGUMENT, () -> x.told(-1));
    }

    private static void slot() {
        promise = 6;
        FrostMason x = told("block 4 3 0;block 6 5 1;slot 1 0 2 1 4;slot 1 1 3 5 8;slot 0 1 1 2 9;order 2 5 1 9 1;");
        int[] across = {1, 0, 2, 1, 4, 5, 1, 1};
        int[] along = {1, 1, 3, 5, 8, 2, 1, 1};
        for (int what = 0; what < 8; what++) {
            is("slot(0, " + what + ")", across[what], x.slot(0, what));
            is("slot(1, " + what + ")", along[what], x.slot(1, what));
        }
        is("need", 3, x.slot(2, 5));
        refuses("no such slot", NO_SUCH, () -> x.slot(3, 0));
        refuses("no such slot", NO_SUCH, () -> x.slot(-1, 0));
        refuses("no such what", ARGUMENT, () -> x.slot(0, 8));
        refuses("no such what", ARGUMENT, () -> x.slot(0, -1));
        refuses("neither", NO_SUCH, () -> x.slot(3, 8));
        x.night(1, 9);
        is("split", 0, x.slot(0, 6));
        is("its point lies in the upper part", 2, x.slot(0, 7));
        is("the lower part is taken", 0, x.piece(1, 5));
        is("alive in the upper part", 1, x.slot(1, 6));
        FrostMason y = told("block 4 3 0;slot 0 0 2 1 3;slot 0 0 3 0 1;slot 0 0 1 0 1;order 2 3 1 9 1;");
        y.night(1, 9);
        is("the point in the upper part", 1, y.slot(1, 7));
        is("taken with its piece", -1, y.slot(2, 7));
        is("dead with its piece", 0, y.slot(2, 6));
        is("alive", 1, y.slot(1, 6));
        FrostMason z = told("block 5 5 0;slot 0 0 2 1 3;slot 0 0 2 4 3;");
        z.night(1, 9);
        is("its line is an edge now", 0, z.slot(1, 6));
        is("its point lies in the upper part", 1, z.slot(1, 7));
        FrostMason w = told("block 5 5 0;slot 0 0 2 1 1;");
        w.night(1, 3);
        is("1 at least", 1, w.slot(0, 4));
        is("bruised", 1, w.sums(6));
    }

    private static void order() {
        promise = 7;
        FrostMason x = told("block 3 2 0;order 2 3 4 5 60;");
        int[] due = {2, 3, 4, 5, 60, 0};
        for (int what = 0; what < due.length; what++) {
            is("order(0, " + what + ")", due[what], x.order(0, what));
        }
        x.night(0, 0);
        is("has", 1, x.order(0, 5));
        refuses("no such order", NO_SUCH, () -> x.order(1, 0));
        refuses("no such order", NO_SUCH, () -> x.order(-1, 9));
        refuses("no such what", ARGUMENT, () -> x.order(0, 6));
    }

    private static void piece() {
        promise = 8;
        FrostMason x = told("block 3 2 0;block 7 6 1;slot 1 1 2 3 3;order 7 2 1 9 1;");
        x.night(1, 9);
        int[][] due = {{0, 0, 3, 0, 2, 1}, {1, 0, 7, 0, 2, 0}, {1, 0, 7, 2, 6, 1}};
        for (int i = 0; i < due.length; i++) {
            for (int what = 0; what < 6; what++) {
                is("piece(" + i + ", " + what + ")", due[i][what], x.piece(i, what));
            }
        }
        refuses("no such piece", INDEX, () -> x.piece(3, 0));
        refuses("no such piece", INDEX, () -> x.piece(-1, 9));
        refuses("no such what", ARGUMENT, () -> x.piece(0, 6));
    }

    private static void odds() {
        promise = 9;
        FrostMason x = told("odds 2 5 3;odds 2 1 1;odds 3 9 8;odds 2 5 1;odds 2 9 1;");
        int[] due = {6, 5, 5, 5, 5, 1, 1, 1, 1};
        for (int k = 1; k <= 9; k++) {
            is("odds(2, " + k + ")", due[k - 1], x.odds(2, k));
        }
        is("odds(3, 9)", 8, x.odds(3, 9));
        is("odds(0, 1)", 0, x.odds(0, 1));
        refuses("night 30", ARGUMENT, () -> x.odds(30, 1));
        refuses("night -1", ARGUMENT, () -> x.odds(-1, 1));
        refuses("cold 0", ARGUMENT, () -> x.odds(0, 0));
        refuses("cold 10", ARGUMENT, () -> x.odds(0, 10));
    }

    private static void seed() {
        promise = 10;
        FrostMason x = told("odds 0 5 4;");
        is("seed", 0, x.seed(-7));
        is("seed", -7, x.seed(1));
        x.night(0, -1);
        is("one draw", 1103527590, x.seed(1));
        x.night(0, -1);
        is("no odds, no draw", 1, x.seed(0));
    }

    private static void night() {
        promise = 11;
        FrostMason x = told("block 6 6 0;slot 0 0 3 1 3;slot 0 0 5 1 3;slot 0 1 2 1 9;slot 0 0 1 1 4;water 3;");
        refuses("more than water", ARGUMENT, () -> x.night(15, 0));
        refuses("no such slot", ARGUMENT, () -> x.night(16, 0));
        refuses("no such slot", ARGUMENT, () -> x.night(Integer.MIN_VALUE, 0));
        refuses("cold 10", ARGUMENT, () -> x.night(0, 10));
        refuses("cold -2", ARGUMENT, () -> x.night(0, -2));
        is("nothing has gone by", 0, x.told(6));
        is("cold 0 does nothing", 0, x.night(1, 0));
        is("depth", 3, x.slot(0, 4));
        is("below need", 0, x.night(1, 2));
        is("bruised", 2, x.slot(0, 4));
        is("need", 4, x.slot(0, 5));
        is("of need", 3, x.night(7, 5));
        is("pieces", 4, x.told(7));
        is("lower part", 2, x.piece(0, 4));
        is("second split goes in the upper part of the first", 5, x.piece(2, 1));
        is("third split is in the lower part", 2, x.piece(3, 3));
        is("third split is in the lower part", 3, x.piece(3, 2));
        refuses("split", ARGUMENT, () -> x.night(1, 0));
        is("the last", 1, x.night(8, 9));
        FrostMason y = told("block 6 6 0;slot 0 0 3 1 3;slot 0 0 3 4 3;");
        is("the second one's line is an edge by then", 1, y.night(3, 9));
        is("and it is not bruised", 0, y.sums(6));
        for (int i = 1; i < 30; i++) {
            y.night(0, 0);
        }
        is("none any more", 30, y.told(6));
        refuses("30 are gone", STATE, () -> y.night(0, 0));
        refuses("no such cold, and 30 are gone", ARGUMENT, () -> y.night(0, 10));
    }

    private static void nightWithDraws() {
        promise = 11;
        // Bits 16 to 18 of the seed behind one draw tell into which odds of 8 it falls.
        int[] coldOf = {7, 7, 4, 7, 7, 0, 0, 0};
        for (int seed = 0; seed < 40; seed++) {
            FrostMason x = told("odds 0 7 2;odds 0 4 1;odds 1 1 8;odds 0 7 2;");
            x.seed(seed);
            x.night(0, -1);
            int behind = seed * 1103515245 + 12345;
            is("cold by seed " + seed, coldOf[behind >>> 16 & 7], x.cold(0));
            is("seed", behind, x.seed(0));
        }
    }

    private static void nightAstray() {
        promise = 11;
        int[] away = {-1, 1, 0, 0};
        for (int seed = 0; seed < 40; seed++) {
            for (int cold = 5; cold < 8; cold++) {
                FrostMason x = told("block 5 4 1;slot 0 0 2 1 3;");
                x.seed(seed);
                is("split", 1, x.night(1, cold));
                int behind = seed * 1103515245 + 12345;
                int due = cold < 7 ? away[behind >>> 16 & 3] : 0;
                is("astray by seed " + seed + ", cold " + cold, due, x.trace(0, 3));
                is("line", 2 + due, x.piece(0, 2));
                is("line", 2 + due, x.piece(1, 1));
                is("drawn", cold < 7 ? behind : seed, x.seed(0));
                FrostMason y = told("block 3 4 1;slot 0 0 1 1 3;");
                y.seed(seed);
                y.night(1, 5);
                is("0 is no line inside", Math.max(0, away[behind >>> 16 & 3]), y.trace(0, 3));
                FrostMason z = told("block 3 4 1;slot 0 0 2 1 3;");
                z.seed(seed);
                z.night(1, 5);
                is("3 is no line inside", Math.min(0, away[behind >>> 16 & 3]), z.trace(0, 3));
                is("drawn", behind, z.seed(0));
            }
        }
    }

    private static void nightDeliveries() {
        promise = 11;
        FrostMason x = told("block 2 3 0;block 3 2 0;block 2 3 0;block 2 2 0;order 3 2 1 1 5;order 2 3 3 1 7;order 2 2 1 0 1;sledge 2;");
        x.night(0, 0);
        is("first order", 1, x.order(0, 5));
        is("second order gets one more", 1, x.order(1, 5));
        is("third order gets none", 0, x.order(2, 5));
        is("paid", 12, x.sums(3));
        is("by number", 0, x.piece(0, 5));
        is("by number", 0, x.piece(1, 5));
        is("lies", 1, x.piece(2, 5));
        x.night(0, 0);
        is("up to its night", 2, x.order(1, 5));
        is("behind its night", 0, x.order(2, 5));
        is("paid", 19, x.sums(3));
        FrostMason y = told("block 2 3 0;order 3 2 1 9 5;thaw 1;");
        y.night(0, 0);
        is("ahead of thaw", 5, y.sums(3));
        FrostMason z = told("block 2 3 0;block 2 3 0;order 3 2 2 9 5;thaw 1;sledge 1;");
        z.night(0, 0);
        z.night(0, 0);
        is("thaw", 5, z.sums(3));
        FrostMason w = told("block 2 3 0;order 3 2 2 9 5;sledge 0;");
        w.night(0, 0);
        is("no sledge", 0, w.sums(3));
    }

    private static void sums() {
        promise = 12;
        FrostMason x = told("block 5 4 1;block 3 3 0;slot 0 0 2 1 3;slot 1 0 1 0 1;order 4 1 1 9 11;order 9 9 1 9 1;");
        x.night(3, 5);
        // The first goes astray to 1 by seed 0; the second is along the grain: 1 by 3, and 2 by 3.
        int[] due = {29, 25, 4, 11, 2, 1, 0, 3};
        for (int what = 0; what < due.length; what++) {
            is("sums(" + what + ")", due[what], x.sums(what));
        }
        refuses("sums(8)", ARGUMENT, () -> x.sums(8));
        refuses("sums(-1)", ARGUMENT, () -> x.sums(-1));
        FrostMason y = told("block 5 4 1;order 4 5 1 9 1;thaw 0;");
        is("of an order's size, turned", 0, y.sums(7));
    }

    private static void trace() {
        promise = 13;
        FrostMason x = told("block 5 4 1;block 3 3 0;slot 0 0 2 1 3;slot 1 0 1 0 1;");
        x.night(0, 9);
        x.night(2, 8);
        x.night(1, 6);
        int[][] due = {{1, 1, 8, 0}, {0, 2, 6, -1}};
        for (int i = 0; i < 2; i++) {
            for (int what = 0; what < 4; what++) {
                is("trace(" + i + ", " + what + ")", due[i][what], x.trace(i, what));
            }
        }
        is("none such", -2, x.trace(2, 0));
        is("none such", -2, x.trace(-1, 0));
        refuses("no such what", ARGUMENT, () -> x.trace(0, 4));
        refuses("no such what", ARGUMENT, () -> x.trace(9, -1));
    }

    private static void cold() {
        promise = 14;
        FrostMason x = told("odds 1 6 8;");
        x.night(0, 3);
        x.night(0, -1);
        x.night(0, -1);
        is("told", 3, x.cold(0));
        is("drawn", 6, x.cold(1));
        is("without odds", 0, x.cold(2));
        is("not gone", -1, x.cold(3));
        is("none", -1, x.cold(-1));
        is("none", -1, x.cold(30));
    }

    private static void undone() {
        promise = 15;
        FrostMason x = told("block 4 4 0;slot 0 0 2 0 3;slot 0 0 2 3 3;slot 0 1 2 0 3;slot 0 1 2 3 3;");
        is("all", 15, x.undone());
        x.night(1, 9);
        is("the second's line is an edge", 12, x.undone());
        x.night(4, 9);
        is("the fourth is in the other piece", 8, x.undone());
    }

    private static void left() {
        promise = 16;
        FrostMason x = told("block 4 3 0;slot 0 0 2 1 3;slot 0 1 1 0 9;slot 0 0 3 0 1;");
        int[][] due = {{3, 9}, {6, 6}, {9, 3}};
        for (int way = 0; way < 3; way++) {
            is("left(0, " + way + ", 0)", due[way][0], x.left(0, way, 0));
            is("left(0, " + way + ", 1)", due[way][1], x.left(0, way, 1));
        }
        is("0 is not inside", -1, x.left(1, 0, 0));
        is("lower", 4, x.left(1, 1, 0));
        is("upper", 8, x.left(1, 1, 1));
        is("upper", 4, x.left(1, 2, 1));
        is("4 is not inside", -1, x.left(2, 2, 1));
        refuses("no such slot", NO_SUCH, () -> x.left(3, 9, 0));
        refuses("no such way", ARGUMENT, () -> x.left(0, 3, 0));
        refuses("no such way", ARGUMENT, () -> x.left(0, -1, 0));
        refuses("no such what", ARGUMENT, () -> x.left(0, 0, 2));
        x.night(1, 9);
        is("not alive", -1, x.left(0, 1, 0));
        is("in the upper part", 3, x.left(2, 1, 0));
        is("2 is an edge", -1, x.left(2, 0, 0));
    }

    private static void fits() {
        promise = 17;
        FrostMason x = told("block 4 3 0;slot 0 0 2 1 3;slot 0 1 1 0 9;order 1 1 1 0 1;order 3 2 1 0 1;order 2 3 1 0 1;order 1 4 1 0 1;order 3 3 1 0 1;");
        is("the first, turned", 1, x.fits(0, 1, 0));
        is("the first, turned", 1, x.fits(0, 1, 1));
        is("no order's", -1, x.fits(0, 0, 0));
        is("upper", 4, x.fits(0, 0, 1));
        is("lower", 3, x.fits(1, 1, 0));
        is("can't go so", -1, x.fits(1, 0, 0));
        is("upper", 3, x.fits(1, 2, 1));
        refuses("no such slot", NO_SUCH, () -> x.fits(2, 1, 0));
        refuses("no such way", ARGUMENT, () -> x.fits(0, 3, 0));
        refuses("no such part", ARGUMENT, () -> x.fits(0, 0, -1));
        x.night(1, 9);
        is("not alive", -1, x.fits(0, 1, 0));
    }

    private static void plan() {
        promise = 18;
        FrostMason x = told("block 4 3 0;slot 0 0 2 1 3;slot 0 1 1 0 9;");
        refuses("no such slots", ARGUMENT, () -> x.plan(4));
        refuses("no such slots", ARGUMENT, () -> x.plan(-1));
        x.night(1, 9);
        for (int i = 1; i <= 30; i++) {
            is("not alive ones too", i, x.plan(i & 3));
        }
        is("there are 30", -1, x.plan(0));
        refuses("no such slots, and there are 30", ARGUMENT, () -> x.plan(4));
        promise = 19;
        is("clear", 30, x.clear());
        is("clear", 0, x.clear());
        is("count", 0, x.count(0));
    }

    private static void would() {
        promise = 20;
        FrostMason x = told("block 5 4 1;block 4 4 0;slot 0 0 2 1 3;slot 1 0 2 0 3;slot 1 1 2 0 1;order 4 1 1 9 11;order 2 4 1 9 5;odds 0 5 8;odds 1 3 8;odds 3 9 8;water 1;");
        // Seed 0: night 0 cold 5, slot 0 alone for want of water, astray by a second draw's bits.
        x.plan(7);
        x.plan(4);
        x.plan(1);
        x.plan(6);
        int away = x.would(0, 2);
        is("nothing stays changed", 0, x.told(6));
        is("splits", 2, x.would(0, 1));
        is("bruises", 1, x.would(0, 5));
        is("idle: the first has split by then", 1, x.would(0, 3));
        FrostMason y = told("block 5 4 1;block 4 4 0;slot 0 0 2 1 3;slot 1 0 2 0 3;slot 1 1 2 0 1;order 4 1 1 9 11;order 2 4 1 9 5;odds 0 5 8;odds 1 3 8;odds 3 9 8;water 1;");
        y.night(1, -1);
        is("bruised slot", 0, y.night(4, -1));
        y.night(0, -1);
        y.night(2, -1);
        is("astray alike", y.sums(5), away);
        is("paid alike", y.sums(3), x.would(0, 0));
        refuses("what 6", ARGUMENT, () -> x.would(0, 6));
        refuses("what -1", ARGUMENT, () -> x.would(0, -1));
        FrostMason z = told("block 4 3 0;block 2 2 0;slot 0 0 2 1 3;order 2 3 2 29 10;order 2 2 1 29 3;odds 29 9 8;");
        for (int i = 0; i < 28; i++) {
            z.night(0, 0);
        }
        is("paid now", 3, z.sums(3));
        z.plan(1);
        z.plan(1);
        z.plan(0);
        is("paid more than now", 20, z.would(5, 0));
        is("splits", 1, z.would(5, 1));
        is("to night 29: the third night is none", 0, z.would(5, 3));
        is("orders that have all, now ones too", 2, z.would(5, 4));
        is("bruises", 0, z.would(5, 5));
        z.night(0, 0);
        z.night(0, 0);
        is("behind the last night", 0, z.would(5, 1));
        is("behind the last night none is idle", 0, z.would(5, 3));
        is("behind the last night", 1, z.would(5, 4));
        FrostMason w = told("block 9 9 0;slot 0 0 3 1 9;slot 0 0 5 1 9;slot 0 0 7 1 9;odds 0 9 8;water 2;");
        w.plan(7);
        is("the greatest number is left out", 2, w.would(0, 1));
        w.clear();
        is("no plan", 0, w.would(0, 3));
        w.night(1, 9);
        w.clear();
        w.plan(5);
        is("the dead one takes no water", 0, w.would(0, 3));
    }

    private static void promise() {
        promise = 21;
        FrostMason x = told("block 4 3 0;slot 0 0 2 1 3;order 2 3 2 0 10;order 2 3 1 0 10;odds 0 9 3;");
        x.plan(1);
        int kept = 0;
        for (int i = 0; i < 99; i++) {
            int behind = (Integer.MAX_VALUE - 50 + i) * 1103515245 + 12345;
            kept += (behind >>> 16 & 7) < 3 ? 1 : 0;
            is("seeds that wrap, " + (i + 1), kept, x.promise(0, Integer.MAX_VALUE - 50, i + 1));
        }
        is("the second order gets none", 0, x.promise(1, 0, 99));
        is("seed 0", 1, x.promise(0, 0, 1));
        refuses("no such order", NO_SUCH, () -> x.promise(2, 0, 0));
        refuses("no such order", NO_SUCH, () -> x.promise(-1, 0, 1));
        refuses("none", ARGUMENT, () -> x.promise(0, 0, 0));
        refuses("100", ARGUMENT, () -> x.promise(0, 0, 100));
        is("nothing stays changed", 0, x.told(6));
        x.night(1, 9);
        is("has them already", 7, x.promise(0, 0, 7));
    }

    private static void tonight() {
        promise = 22;
        FrostMason x = told("block 4 3 0;slot 0 0 2 1 3;order 2 3 2 0 10;odds 0 9 3;odds 1 9 8;");
        is("only this night pays", 1, x.tonight());
        promise = 23;
        is("worth", 15, x.worth(0));
        is("worth", 2, x.worth(1));
        refuses("what 2", ARGUMENT, () -> x.worth(2));
        refuses("what -1", ARGUMENT, () -> x.worth(-1));
        promise = 22;
        // Across the grain: line 1, 2 by odds of 1 in 4 and 2 in 4; it pays 6 for 1 by 4, and 4 for 2 by 4.
        FrostMason y = told("block 5 4 1;slot 0 0 2 1 3;order 1 4 1 1 6;order 2 4 1 1 4;odds 0 6 4;odds 1 7 2;");
        // Filled tonight: 1 of 2 split; 1 in 4 pays 6, 3 in 4 pay 4 (the line at 3 leaves 2 above): 9 by 2; else 1 of 4 of 4.
        is("tonight", 1, y.tonight());
        promise = 23;
        is("above", 11, y.worth(0));
        is("below", 4, y.worth(1));
        promise = 22;
        // A bruise tonight would make tomorrow's frost too weak, so the slot is left alone.
        FrostMason z = told("block 4 3 0;slot 0 0 2 1 3;order 2 3 2 1 10;odds 0 1 7;odds 0 3 1;odds 1 3 8;");
        is("left alone", 0, z.tonight());
        is("worth", 20, z.worth(0));
        FrostMason four = told("block 2 2 0;block 2 2 0;block 2 2 0;block 4 3 0;slot 0 0 1 0 1;slot 1 0 1 0 1;slot 2 0 1 0 1;slot 3 0 2 0 3;order 2 3 2 0 10;odds 0 9 8;");
        is("the fourth is not looked at", 0, four.tonight());
        is("worth nothing", 0, four.worth(0));
        is("by 1", 1, four.worth(1));
        FrostMason next = told("block 2 2 0;block 2 2 0;block 2 2 0;block 4 3 0;slot 0 0 1 0 1;slot 1 0 1 0 1;slot 2 0 1 0 1;slot 3 0 2 0 3;order 2 3 2 1 10;odds 0 9 8;odds 1 9 8;");
        is("one of the first three, that the fourth may be next", 1, next.tonight());
        is("worth", 20, next.worth(0));
        FrostMason dry = told("block 4 3 0;slot 0 0 2 1 3;order 2 3 2 0 10;odds 0 9 8;water 0;");
        is("no water", 0, dry.tonight());
        FrostMason last = told("block 4 3 0;slot 0 0 2 1 3;order 2 3 2 29 10;odds 29 9 4;");
        for (int i = 0; i < 28; i++) {
            last.night(0, 0);
        }
        is("tomorrow's set is chosen tomorrow", 0, last.tonight());
        is("worth", 10, last.worth(0));
        last.night(0, 0);
        is("kept answers go with the night", 1, last.tonight());
        is("worth", 10, last.worth(0));
        last.night(0, 0);
        refuses("30 are gone", STATE, () -> last.tonight());
        promise = 23;
        refuses("30 are gone", STATE, () -> last.worth(1));
        refuses("what 2, and 30 are gone", ARGUMENT, () -> last.worth(2));
    }

    private static void now() {
        promise = 24;
        FrostMason x = told("block 5 4 1;slot 0 0 2 1 3;order 1 4 1 1 6;order 2 4 1 1 4;odds 0 6 4;odds 1 7 2;");
        is("above", 9, x.now(1, 0));
        is("below", 4, x.now(1, 1));
        is("nothing filled", 0, x.now(0, 0));
        is("nothing filled", 1, x.now(0, 1));
        refuses("no such what", ARGUMENT, () -> x.now(1, 2));
        refuses("no such slot", ARGUMENT, () -> x.now(2, 0));
        FrostMason y = told("block 12 2 1;slot 0 0 1 0 3;slot 0 0 2 0 3;slot 0 0 3 0 3;slot 0 0 4 0 3;slot 0 0 5 0 3;slot 0 0 6 0 3;slot 0 0 7 0 3;order 1 2 9 9 1;odds 0 9 1;");
        is("six, not astray: six of 1 by 2", 3, y.now(63, 0));
        is("in 1 of 8", 4, y.now(63, 1));
        refuses("seven", ARGUMENT, () -> y.now(127, 0));
        y.night(0, 0);
        is("by the odds of this night", 0, y.now(63, 0));
        FrostMason dry = told("block 5 4 1;slot 0 0 2 1 3;slot 0 0 3 1 3;water 1;");
        refuses("more than water", ARGUMENT, () -> dry.now(3, 0));
        for (int i = 0; i < 30; i++) {
            dry.night(0, 0);
        }
        refuses("30 are gone", STATE, () -> dry.now(0, 0));
        refuses("no such what, and 30 are gone", ARGUMENT, () -> dry.now(0, 2));
    }

    private static void deeper() {
        promise = 25;
        FrostMason x = told("block 4 3 0;block 2 2 0;slot 1 0 1 0 1;slot 0 0 2 1 2;order 2 3 2 0 10;odds 0 3 8;");
        is("worth nothing yet", 0, x.worth(0));
        is("the second is worth more", 1, x.deeper());
        is("nothing stays changed", 2, x.slot(1, 4));
        is("nothing stays changed", 0, x.tonight());
        FrostMason y = told("block 4 3 0;block 2 2 0;slot 1 0 1 0 9;slot 0 0 2 1 9;order 2 3 2 0 10;odds 0 3 8;");
        is("of these the first", 0, y.deeper());
        y.night(1, 9);
        is("of the alive ones", 1, y.deeper());
        y.night(2, 9);
        is("none is alive", -1, y.deeper());
        for (int i = 2; i < 30; i++) {
            y.night(0, 0);
        }
        refuses("30 are gone", STATE, () -> y.deeper());
    }

    private static void thumb() {
        promise = 26;
        FrostMason x = new FrostMason();
        promise = 27;
        is("never", 0, x.trust(true, 0));
        is("never", 1, x.trust(true, 1));
        is("never", 0, x.trust(false, 0));
        is("never", 1, x.trust(false, 1));
        promise = 26;
        for (int i = 1; i <= 60; i++) {
            // Of 40 said frost 10 came; of 20 said none 15 came.
            boolean said = i <= 40;
            boolean came = said ? i <= 10 : i <= 55;
            is("thumb", i, x.thumb(said, came));
        }
        is("there are 60", -1, x.thumb(true, true));
        promise = 27;
        is("above", 1, x.trust(true, 0));
        is("below", 4, x.trust(true, 1));
        is("above", 3, x.trust(false, 0));
        is("below", 4, x.trust(false, 1));
        refuses("what 2", ARGUMENT, () -> x.trust(true, 2));
        refuses("what -1", ARGUMENT, () -> x.trust(false, -1));
        promise = 28;
        is("right in 15, against 35 without frost", -20, x.listening());
        FrostMason y = new FrostMason();
        y.thumb(true, true);
        y.thumb(false, false);
        is("alike", 1, y.listening());
        y.thumb(false, false);
        is("none came more often", 1, y.listening());
        y.thumb(false, true);
        y.thumb(true, true);
        is("frost came more often", 1, y.listening());
        promise = 27;
        y.thumb(true, false);
        is("above", 2, y.trust(true, 0));
        is("below", 3, y.trust(true, 1));
    }

    private static void tower() {
        promise = 29;
        is("either way", 2, told("block 2 5 0;block 5 3 0;").tower());
        is("none upon the other", 1, told("block 2 5 0;block 3 4 0;").tower());
        is("alike ones", 3, told("block 2 5 0;block 5 2 0;block 2 5 1;").tower());
        is("the longer chain", 4, told("block 2 12 0;block 2 2 0;block 3 2 0;block 3 3 0;block 4 4 0;").tower());
        FrostMason x = told("block 2 5 0;block 5 2 0;order 5 2 1 0 1;");
        x.night(0, 0);
        is("lying ones alone", 1, x.tower());
    }

    private static void face() {
        promise = 30;
        FrostMason x = told("block 4 3 0;block 4 3 0;slot 0 0 2 1 3;slot 1 1 1 0 1;");
        int[] colds = {3, 2, 9, 4, 0, 6};
        for (int cold : colds) {
            x.night(0, cold);
        }
        is("need 3", 1 + 4 + 8 + 32, x.face(0));
        is("need 6", 4 + 32, x.face(1));
        x.night(1, 1);
        is("need 4 now", 4 + 8 + 32, x.face(0));
        for (int i = 7; i < 30; i++) {
            x.night(0, 9);
        }
        is("all nights", 4 + 8 + 32 + (1 << 30) - (1 << 7), x.face(0));
        refuses("no such slot", NO_SUCH, () -> x.face(2));
        refuses("no such slot", NO_SUCH, () -> x.face(-1));
    }

    private static void images() {
        promise = 31;
        FrostMason x = told("block 4 3 0;slot 0 0 2 1 3;slot 0 1 1 0 9;order 2 3 2 5 10;odds 0 5 8;odds 1 5 8;");
        x.seed(77);
        x.plan(3);
        x.thumb(true, false);
        is("image", 1, x.image());
        is("worth is kept", 20, x.worth(0));
        x.night(1, 9);
        x.clear();
        x.thumb(true, true);
        x.seed(88);
        is("image", 2, x.image());
        is("image", 3, x.image());
        is("there are 3", -1, x.image());
        put(x, "thaw 99;");
        x.quarry(8);
        put(x, "thaw");
        promise = 32;
        is("left", 2, x.restore());
        is("left", 1, x.restore());
        is("seed", 88, x.seed(0));
        is("worth", 0, x.worth(0));
        is("left", 0, x.restore());
        is("worth goes back too", 20, x.worth(0));
        is("seed", 77, x.seed(0));
        is("night", 0, x.told(6));
        is("pieces", 1, x.told(7));
        is("its edge", 4, x.piece(0, 2));
        is("paid", 0, x.sums(3));
        is("splits", 0, x.sums(4));
        is("order", 0, x.order(0, 5));
        is("cold", -1, x.cold(0));
        is("trace", -2, x.trace(0, 0));
        is("plan", 1, x.count(0));
        is("records", 1, x.count(1));
        is("trust", 0, x.trust(true, 0));
        is("would", 10, x.would(0, 0));
        is("undone", 3, x.undone());
        is("the fault stays", 5, x.fault());
        is("the tape stays", 20, x.count(3));
        is("there is none", -1, x.restore());
        is("night", 1, x.night(1, 9));
        x.image();
        x.night(0, 4);
        is("restored in the middle", 0, x.restore());
        is("trace", 9, x.trace(0, 2));
        is("cold", 9, x.cold(0));
        is("cold", -1, x.cold(1));
        is("paid", 20, x.sums(3));
        is("depth", 3, x.slot(0, 4));
    }

    private static void count() {
        promise = 33;
        FrostMason x = told("block 4 3 0;slot 0 0 2 1 3;");
        x.plan(1);
        x.plan(0);
        x.thumb(true, true);
        x.thumb(true, true);
        x.thumb(false, true);
        x.image();
        x.feed(0, 0, 0, 0, 0);
        int[] due = {2, 3, 1, 20, -1};
        for (int what = 0; what < due.length; what++) {
            is("count(" + what + ")", due[what], x.count(what));
        }
        is("none", -1, x.count(-1));
        is("none", -1, x.count(Integer.MAX_VALUE));
    }

    private static void manyCalls() {
        promise = 11;
        // All that a quarry may hold: 6 blocks and 12 splits make 18 pieces.
        FrostMason x = told("block 2 2 0;block 2 2 0;block 2 2 0;block 2 2 0;block 2 2 0;block 12 12 0;"
                + "slot 0 0 1 0 1;slot 1 0 1 0 1;slot 2 0 1 0 1;slot 3 0 1 0 1;slot 4 0 1 0 1;slot 5 0 1 0 1;"
                + "slot 5 0 3 0 1;slot 5 0 5 0 1;slot 5 0 7 0 1;slot 5 0 9 0 1;slot 5 0 10 0 1;slot 5 0 11 0 1;");
        is("all twelve", 12, x.night(4095, 9));
        is("pieces", 18, x.told(7));
        is("stone adds up", 5 * 4 + 144, x.sums(1));
        is("a tower of ten of 1 by 2, then the long ones", 18, x.tower());
        is("trace", 11, x.trace(11, 0));
        for (int i = 0; i < 235; i++) {
            x.image();
            x.restore();
        }
        is("pieces", 18, x.told(7));
    }
}

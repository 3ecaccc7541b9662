/** Promises 1 to 33: what each call answers where there is none such, where it is full or empty, and where it is refused. */
public final class CallBoundsTests {
    private static final int BLANKS = 0x20202020;
    private static final String QUARRY = "block 4 3 0;block 5 4 1;slot 0 0 2 1 3;slot 1 0 2 1 4;order 2 3 2 5 10;odds 0 5 4;water 2;sledge 3;thaw 9;";

    public static void main(String[] args) {
        newObject();
        newObjectThrows();
        nothing();
        feedToTheLast();
        feedDoingNothing();
        feedHighestFirst();
        quarryBytes();
        quarryEmptiesTheTape();
        quarryAnew();
        quarryBehindAGreaterOne();
        quarryCountsFromNothing();
        quarryWithFault();
        faultOfTheLatest();
        told();
        slot();
        slotTaken();
        order();
        piece();
        odds();
        seed();
        night();
        nightHowManySplit();
        sums();
        sumsOfNoOrdersSize();
        trace();
        cold();
        undone();
        left();
        leftCantGoSo();
        fits();
        planSlots();
        clear();
        would();
        promise();
        worthAndNow();
        keptNoLongerThanTrue();
        allFull();
        threeImages();
        imageOfAll();
        imageNotOf();
        restoreNone();
        imagesAndQuarries();
        count();
        calls512();
        Checks.end();
    }

    private static void newObject() {
        Checks.says("Promise 1: No BLOCKS");
        FrostMason x = new FrostMason();
        int[] due = {0, 0, 0, 12, 9, 30, 0, 0};
        for (int what = 0; what < 8; what++) {
            Checks.is("told(" + what + ")", due[what], x.told(what));
            Checks.is("sums(" + what + ")", 0, x.sums(what));
        }
        Checks.is("fault", -1, x.fault());
        Checks.is("odds", 0, x.odds(0, 1));
        Checks.is("odds", 0, x.odds(29, 9));
        Checks.is("seed", 0, x.seed(0));
        Checks.is("trace", -2, x.trace(0, 0));
        Checks.is("cold", -1, x.cold(0));
        Checks.is("undone", 0, x.undone());
        Checks.is("would", 0, x.would(0, 4));
        Checks.is("tonight", 0, x.tonight());
        Checks.is("worth", 0, x.worth(0));
        Checks.is("worth", 1, x.worth(1));
        Checks.is("now", 0, x.now(0, 0));
        Checks.is("now", 1, x.now(0, 1));
        Checks.is("deeper", -1, x.deeper());
        Checks.is("trust", 0, x.trust(true, 0));
        Checks.is("trust", 1, x.trust(true, 1));
        Checks.is("listening", 0, x.listening());
        Checks.is("tower", 0, x.tower());
        Checks.is("clear", 0, x.clear());
        Checks.is("restore", -1, x.restore());
        for (int what = 0; what < 4; what++) {
            Checks.is("count(" + what + ")", 0, x.count(what));
        }
        Checks.is("plan of nothing", 1, x.plan(0));
        Checks.is("thumb", 1, x.thumb(true, true));
        Checks.is("image", 1, x.image());
        Checks.is("a night", 0, x.night(0, 9));
        Checks.is("its cold", 9, x.cold(0));
        Checks.is("restore", 0, x.restore());
        Checks.is("night", 0, x.told(6));
    }

    private static void newObjectThrows() {
        Checks.says("Promise 1: No BLOCKS, so no SLOTS, ORDERS, PIECES, bytes");
        FrostMason x = new FrostMason();
        Checks.refuses("slot", Checks.NO_SUCH, () -> x.slot(0, 0));
        Checks.refuses("order", Checks.NO_SUCH, () -> x.order(0, 0));
        Checks.refuses("piece", Checks.INDEX, () -> x.piece(0, 0));
        Checks.refuses("left", Checks.NO_SUCH, () -> x.left(0, 0, 0));
        Checks.refuses("fits", Checks.NO_SUCH, () -> x.fits(0, 0, 0));
        Checks.refuses("promise", Checks.NO_SUCH, () -> x.promise(0, 0, 1));
        Checks.refuses("face", Checks.NO_SUCH, () -> x.face(0));
        Checks.refuses("night", Checks.ARGUMENT, () -> x.night(1, 0));
        Checks.refuses("now", Checks.ARGUMENT, () -> x.now(1, 0));
        Checks.refuses("plan", Checks.ARGUMENT, () -> x.plan(1));
        Checks.refuses("quarry", Checks.ARGUMENT, () -> x.quarry(1));
        Checks.is("quarry(0)", 0, x.quarry(0));
    }

    private static void nothing() {
        Checks.says("NONE = -1");
        Checks.is("NONE", -1, FrostMason.NONE);
    }

    private static void feedToTheLast() {
        Checks.says("Promise 2: Twenty bytes come on the TAPE: how many there are; NONE if there would be more than 600");
        FrostMason x = new FrostMason();
        for (int i = 1; i <= 30; i++) {
            Checks.is("feed " + i, 20 * i, x.feed(BLANKS, BLANKS, BLANKS, BLANKS, BLANKS));
            Checks.is("count(3)", 20 * i, x.count(3));
        }
        Checks.is("a 31st", -1, x.feed(BLANKS, BLANKS, BLANKS, BLANKS, BLANKS));
        Checks.is("still 600", 600, x.count(3));
        Checks.is("all 600 are read", 0, x.quarry(600));
        Checks.is("from the begin again", 20, x.feed(BLANKS, BLANKS, BLANKS, BLANKS, BLANKS));
    }

    private static void feedDoingNothing() {
        Checks.says("Promise 2: NONE, doing nothing");
        FrostMason x = new FrostMason();
        Checks.put(x, Checks.times(593, " ") + "thaw 7;");
        Checks.is("a feed too many", -1, x.feed(-1, -1, -1, -1, -1));
        Checks.is("a feed too many", -1, x.feed(0, 0, 0, 0, 0));
        Checks.refuses("601 bytes", Checks.ARGUMENT, () -> x.quarry(601));
        Checks.is("the text is as it was", 0, x.quarry(600));
        Checks.is("thaw", 7, x.told(5));
    }

    private static void feedHighestFirst() {
        Checks.says("Promise 2: of each number the highest first");
        FrostMason x = new FrostMason();
        // "thaw", " 2;w", "ater", " 3; ", blanks.
        x.feed(0x74686177, 0x20323b77, 0x61746572, 0x20333b20, BLANKS);
        Checks.is("quarry", 0, x.quarry(20));
        Checks.is("thaw", 2, x.told(5));
        Checks.is("water", 3, x.told(3));
        // Bytes of 128 and more are no blanks or letters, wherever in a number they stand.
        int[] numbers = {0xff202020, 0x20ff2020, 0x2020ff20, 0x202020ff, 0x20202080};
        int[] places = {0, 1, 2, 3, 3};
        for (int i = 0; i < numbers.length; i++) {
            x.feed(numbers[i], BLANKS, BLANKS, BLANKS, BLANKS);
            Checks.is("quarry", -9, x.quarry(20));
            Checks.is("its place", places[i], x.fault());
            x.feed(BLANKS, BLANKS, BLANKS, BLANKS, numbers[i]);
            Checks.is("quarry", -9, x.quarry(20));
            Checks.is("its place", 16 + places[i], x.fault());
        }
    }

    private static void quarryBytes() {
        Checks.says("Promise 3: IllegalArgumentException: n is not 0 to the TAPE's bytes (it stays)");
        FrostMason x = Checks.told(QUARRY);
        String before = Checks.all(x);
        Checks.refuses("1 of 0", Checks.ARGUMENT, () -> x.quarry(1));
        Checks.put(x, "thaw 4;");
        Checks.refusesOutside("quarry", 0, 20, Checks.ARGUMENT, n -> x.quarry(n));
        Checks.is("the tape stays", 20, x.count(3));
        Checks.same("all that can be seen", before, Checks.all(x));
        Checks.is("what stands on it stays", 0, x.quarry(7));
        Checks.is("thaw", 4, x.told(5));
        FrostMason y = new FrostMason();
        Checks.put(y, "thaw 4;             ");
        Checks.is("as many as there are", 0, y.quarry(20));
        Checks.is("thaw", 4, y.told(5));
        Checks.put(y, "thaw 5;");
        Checks.is("one less", -9, y.quarry(19));
        Checks.is("a byte of 0 behind the text", 7, y.fault());
    }

    private static void quarryEmptiesTheTape() {
        Checks.says("Promise 3: The first n bytes of the TAPE (empty then)");
        FrostMason x = new FrostMason();
        Checks.put(x, "thaw 4;thaw 5;");
        Checks.is("the first clause", 0, x.quarry(7));
        Checks.is("thaw", 4, x.told(5));
        Checks.is("all bytes are gone", 0, x.count(3));
        Checks.refuses("none is left", Checks.ARGUMENT, () -> x.quarry(1));
        Checks.put(x, "thaw 6;");
        Checks.is("quarry(0)", 0, x.quarry(0));
        Checks.is("all bytes are gone", 0, x.count(3));
        Checks.is("without thaw", 30, x.told(5));
        Checks.is("a fault", -9, Checks.tell(x, "thaws"));
        Checks.is("all bytes are gone", 0, x.count(3));
        Checks.refuses("none is left", Checks.ARGUMENT, () -> x.quarry(1));
    }

    private static FrostMason used() {
        FrostMason x = Checks.told(QUARRY);
        x.night(1, 9);
        x.night(2, 1);
        x.seed(99);
        x.plan(3);
        x.plan(1);
        x.thumb(true, true);
        x.thumb(false, true);
        x.image();
        return x;
    }

    private static void quarryAnew() {
        Checks.says("Promise 3: are the QUARRY (NIGHT 0, SEED 0, no PLAN, RECORDS, IMAGES): how many BLOCKS");
        FrostMason x = used();
        Checks.is("blocks", 2, Checks.tell(x, QUARRY));
        Checks.same("all is as in a new one", Checks.all(Checks.told(QUARRY)), Checks.all(x));
        Checks.is("night", 0, x.told(6));
        Checks.is("seed", 0, x.seed(0));
        Checks.is("plan", 0, x.count(0));
        Checks.is("records", 0, x.count(1));
        Checks.is("images", 0, x.count(2));
        Checks.is("restore", -1, x.restore());
        Checks.is("cold", -1, x.cold(0));
        Checks.is("trace", -2, x.trace(0, 0));
        Checks.is("face", 0, x.face(0));
        FrostMason empty = used();
        Checks.is("an empty one", 0, empty.quarry(0));
        Checks.same("all is as in a new object", Checks.all(new FrostMason()), Checks.all(empty));
        Checks.is("its odds", 0, empty.odds(0, 1));
    }

    /** All that can be asked without a change, beside what Checks.all() asks. */
    private static String more(FrostMason x) {
        StringBuilder b = new StringBuilder();
        for (int night = 0; night < 4; night++) {
            for (int k = 1; k <= 9; k++) {
                b.append(x.odds(night, k)).append(' ');
            }
        }
        for (int slot = 0; slot < x.told(1); slot++) {
            for (int way = 0; way < 3; way++) {
                b.append(x.left(slot, way, 0)).append(' ').append(x.fits(slot, way, 0)).append(' ');
                b.append(x.fits(slot, way, 1)).append(' ').append(x.face(slot)).append(' ');
            }
        }
        b.append(x.tonight()).append(' ').append(x.worth(0)).append(' ').append(x.worth(1)).append(' ');
        b.append(x.now(x.undone() & 7, 0)).append(' ').append(x.now(x.undone() & 7, 1)).append(' ');
        b.append(x.deeper()).append(' ').append(x.tower());
        return b.toString();
    }

    private static void quarryBehindAGreaterOne() {
        Checks.says("Promise 3: are the QUARRY: nothing of an earlier, greater one");
        String great = Checks.times(6, "block 12 12 0;") + "slot 0 0 6 0 9;slot 0 1 6 0 9;slot 0 1 6 6 9;slot 1 0 6 0 9;slot 2 0 1 0 9;slot 2 0 3 0 9;slot 3 1 1 0 9;slot 3 1 5 0 9;"
                + Checks.times(5, "order 6 6 9 29 9;") + "order 3 4 1 1 1;" + Checks.times(8, "odds0 9 1;") + Checks.times(8, "odds1 8 1;") + "water 6;sledge 2;thaw 3;";
        String[] lesser = {"", "block 4 3 0;", QUARRY, Checks.times(6, "block 3 4 1;") + "slot 5 0 1 0 1;", "odds 3 5 1;block 6 6 0;slot 0 0 3 1 2;order 3 6 1 9 1;"};
        for (String text : lesser) {
            FrostMason x = Checks.told(great);
            x.seed(5);
            x.night(1 + 2 + 4 + 16 + 32 + 64, -1);
            x.night(8 + 128, 9);
            x.night(0, -1);
            x.tower();
            x.tonight();
            Checks.tell(x, text);
            FrostMason fresh = Checks.told(text);
            Checks.same("all that can be seen", Checks.all(fresh), Checks.all(x));
            Checks.same("more that can be seen", more(fresh), more(x));
            for (int i = 0; i < 3; i++) {
                Checks.is("a night", fresh.night(fresh.undone() & 1, 3 * i + 2), x.night(x.undone() & 1, 3 * i + 2));
            }
            Checks.is("drawn", fresh.night(0, -1), x.night(0, -1));
            Checks.same("all behind nights", Checks.all(fresh), Checks.all(x));
        }
        FrostMason parts = Checks.told("block 12 12 0;slot 0 0 6 0 9;slot 0 1 6 0 9;slot 0 1 6 6 9;slot 0 0 3 0 9;slot 0 0 9 6 9;");
        Checks.is("five splits", 5, parts.night(31, 9));
        Checks.tell(parts, Checks.times(6, "block 3 4 1;"));
        Checks.same("whole blocks behind parts", Checks.all(Checks.told(Checks.times(6, "block 3 4 1;"))), Checks.all(parts));
        FrostMason slots = Checks.told("block 4 3 0;block 6 3 0;slot 0 0 2 1 2;slot 1 0 3 1 2;order 2 3 2 0 5;order 3 3 2 0 6;odds 0 3 8;");
        Checks.is("the second slot", 1, slots.deeper());
        Checks.tell(slots, "block 4 3 0;block 6 3 0;slot 0 0 2 1 2;order 2 3 2 0 5;order 3 3 2 0 6;odds 0 3 8;");
        Checks.is("there is no second slot any more", 0, slots.deeper());
        FrostMason odds = Checks.told("odds 0 5 4;odds 0 9 4;");
        Checks.tell(odds, "odds 0 5 4;");
        odds.seed(Checks.seedFor(7, 8));
        odds.night(0, -1);
        Checks.is("there are no second odds any more", 0, odds.cold(0));
        // What had gone astray and had been bruised is no more counted either.
        FrostMason y = Checks.told("block 5 4 1;slot 0 0 2 1 3;");
        y.seed(Checks.seedFor(0, 4));
        y.night(1, 1);
        y.night(1, 6);
        Checks.is("astray", 1, y.sums(5));
        Checks.is("bruises", 1, y.sums(6));
        Checks.tell(y, "block 5 4 1;slot 0 0 2 1 3;");
        for (int what = 2; what < 7; what++) {
            Checks.is("sums(" + what + ")", 0, y.sums(what));
        }
    }

    private static void quarryCountsFromNothing() {
        Checks.says("Promise 3: what is told at most is told of each QUARRY");
        String[] full = {Checks.times(6, "block 2 2 0;"), "block 2 2 0;" + Checks.times(12, "slot 0 0 1 0 1;"), Checks.times(6, "order 1 1 1 1 1;"), Checks.times(8, "odds 0 1 1;") + Checks.times(8, "odds 1 1 1;") + Checks.times(8, "odds 2 1 1;"), Checks.times(60, "thaw 3;")};
        for (String text : full) {
            FrostMason x = Checks.told(text);
            Checks.tell(x, text);
            Checks.is("the fault of a full one again", -1, x.fault());
            Checks.tell(x, text + "x");
            Checks.is("a fault", text.length(), x.fault());
            Checks.tell(x, text);
            Checks.is("the fault of a full one behind a fault", -1, x.fault());
        }
    }

    private static void quarryWithFault() {
        Checks.says("Promise 3: or the FAULT less 10 (all stays)");
        String[] texts = {"block 3 3 0;x", "block 3 3 0;thaw 31;", Checks.times(7, "block 2 2 0;")};
        for (int i = 0; i < texts.length; i++) {
            FrostMason x = used();
            String before = Checks.all(x);
            Checks.is("quarry", i + 1 - 10, Checks.tell(x, texts[i]));
            Checks.same("all that can be seen", before, Checks.all(x));
            Checks.is("images", 1, x.count(2));
            Checks.is("odds", 4, x.odds(0, 5));
            x.night(0, 0);
            Checks.is("the image stays", 0, x.restore());
            Checks.same("all as in the image", before, Checks.all(x));
        }
    }

    private static void faultOfTheLatest() {
        Checks.says("Promise 4: The place of the FAULT of the latest quarry(); NONE without");
        FrostMason x = new FrostMason();
        Checks.is("no quarry yet", -1, x.fault());
        Checks.tell(x, "   x");
        Checks.is("place 3", 3, x.fault());
        Checks.tell(x, "x");
        Checks.is("place 0", 0, x.fault());
        Checks.tell(x, "thaw 3;");
        Checks.is("without", -1, x.fault());
        Checks.tell(x, "thaw 31;");
        Checks.is("place 5", 5, x.fault());
        Checks.is("asked again", 5, x.fault());
        x.quarry(0);
        Checks.is("without", -1, x.fault());
    }

    private static void told() {
        Checks.says("Promise 5: 0 to 7; 6 the NIGHT (30: none any more), 7 PIECES (also those taken); IllegalArgumentException: another what");
        FrostMason x = Checks.told(QUARRY);
        int[] due = {2, 2, 1, 2, 3, 9, 0, 2};
        for (int what = 0; what < 8; what++) {
            Checks.is("told(" + what + ")", due[what], x.told(what));
        }
        Checks.refusesOutside("told", 0, 7, Checks.ARGUMENT, what -> x.told(what));
        x.night(1, 9);
        Checks.is("taken", 12, x.sums(2));
        Checks.is("pieces, also those taken", 3, x.told(7));
        Checks.pass(x, 28);
        Checks.is("night 29", 29, x.told(6));
        x.night(0, 0);
        Checks.is("none any more", 30, x.told(6));
    }

    private static void slot() {
        Checks.says("Promise 6: Of a SLOT 0 to 7; NoSuchElementException: no such SLOT; IllegalArgumentException: another what");
        FrostMason x = Checks.told(QUARRY);
        int[][] due = {{0, 0, 2, 1, 3, 3, 1, 0}, {1, 0, 2, 1, 4, 5, 1, 1}};
        for (int slot = 0; slot < 2; slot++) {
            for (int what = 0; what < 8; what++) {
                Checks.is("slot(" + slot + ", " + what + ")", due[slot][what], x.slot(slot, what));
            }
        }
        Checks.refusesOutside("slot", 0, 1, Checks.NO_SUCH, slot -> x.slot(slot, 0));
        Checks.refusesOutside("slot", 0, 7, Checks.ARGUMENT, what -> x.slot(0, what));
        FrostMason twelve = Checks.told("block 2 2 0;" + Checks.times(11, "slot 0 0 1 0 1;") + "slot 0 1 1 1 8;");
        Checks.is("the twelfth", 8, twelve.slot(11, 4));
        Checks.refuses("a thirteenth", Checks.NO_SUCH, () -> twelve.slot(12, 4));
        FrostMason none = Checks.told("block 2 2 0;");
        Checks.refuses("none", Checks.NO_SUCH, () -> none.slot(0, 0));
    }

    private static void slotTaken() {
        Checks.says("Promise 6: 4 DEPTH now, 6 whether it is ALIVE (1, 0), 7 the PIECE in which its point lies (NONE: taken)");
        FrostMason x = Checks.told("block 4 3 0;slot 0 0 2 1 3;slot 0 1 1 0 3;slot 0 1 1 3 3;order 2 3 1 9 1;");
        x.night(1, 2);
        Checks.is("depth now", 2, x.slot(0, 4));
        Checks.is("need now", 4, x.slot(0, 5));
        x.night(1, 9);
        Checks.is("split, its point in the upper part", 1, x.slot(0, 7));
        Checks.is("split", 0, x.slot(0, 6));
        Checks.is("taken", -1, x.slot(1, 7));
        Checks.is("taken", 0, x.slot(1, 6));
        Checks.is("lies", 1, x.slot(2, 7));
        Checks.is("lies", 1, x.slot(2, 6));
    }

    private static void order() {
        Checks.says("Promise 7: Of an ORDER 0 to 5; NoSuchElementException: no such ORDER; IllegalArgumentException: another what");
        FrostMason x = Checks.told(QUARRY);
        int[] due = {2, 3, 2, 5, 10, 0};
        for (int what = 0; what < 6; what++) {
            Checks.is("order(0, " + what + ")", due[what], x.order(0, what));
        }
        Checks.refusesOutside("order", 0, 0, Checks.NO_SUCH, order -> x.order(order, 0));
        Checks.refusesOutside("order", 0, 5, Checks.ARGUMENT, what -> x.order(0, what));
        x.night(1, 9);
        Checks.is("how many it has", 2, x.order(0, 5));
        Checks.is("how many it wants", 2, x.order(0, 2));
        FrostMason six = Checks.told(Checks.times(5, "order 1 1 1 1 1;") + "order 1 1 1 1 9;");
        Checks.is("the sixth", 9, six.order(5, 4));
        Checks.refuses("a seventh", Checks.NO_SUCH, () -> six.order(6, 4));
    }

    private static void piece() {
        Checks.says("Promise 8: Of a PIECE 0 to 5; IndexOutOfBoundsException: no such PIECE; IllegalArgumentException: another what");
        FrostMason x = Checks.told(QUARRY);
        Checks.refusesOutside("piece", 0, 1, Checks.INDEX, piece -> x.piece(piece, 0));
        Checks.refusesOutside("piece", 0, 5, Checks.ARGUMENT, what -> x.piece(0, what));
        x.night(1, 9);
        int[] due = {0, 2, 4, 0, 3, 0};
        for (int what = 0; what < 6; what++) {
            Checks.is("piece(2, " + what + ")", due[what], x.piece(2, what));
        }
        Checks.refuses("piece(3)", Checks.INDEX, () -> x.piece(3, 0));
        x.quarry(0);
        Checks.refuses("none", Checks.INDEX, () -> x.piece(0, 0));
    }

    private static void odds() {
        Checks.says("Promise 9: In how many of 8 a NIGHT (0 to 29) has COLD of k (1 to 9) or more");
        FrostMason x = Checks.told("odds 0 1 1;odds 0 5 3;odds 0 9 2;odds 29 1 8;odds 28 9 8;");
        int[] due = {6, 5, 5, 5, 5, 2, 2, 2, 2};
        for (int k = 1; k <= 9; k++) {
            Checks.is("odds(0, " + k + ")", due[k - 1], x.odds(0, k));
            Checks.is("odds(29, " + k + ")", k == 1 ? 8 : 0, x.odds(29, k));
            Checks.is("odds(28, " + k + ")", 8, x.odds(28, k));
            Checks.is("odds(1, " + k + ")", 0, x.odds(1, k));
        }
        Checks.refusesOutside("odds of a night", 0, 29, Checks.ARGUMENT, night -> x.odds(night, 1));
        Checks.refusesOutside("odds of a cold", 1, 9, Checks.ARGUMENT, k -> x.odds(0, k));
        Checks.pass(x, 30);
        Checks.is("nights that are gone", 5, x.odds(0, 5));
    }

    private static void seed() {
        Checks.says("Promise 10: The SEED is another one: which it was");
        FrostMason x = new FrostMason();
        int[] seeds = {0, 1, -1, Integer.MAX_VALUE, Integer.MIN_VALUE, 0};
        int was = 0;
        for (int seed : seeds) {
            Checks.is("seed(" + seed + ")", was, x.seed(seed));
            was = seed;
        }
    }

    private static void night() {
        Checks.says("Promise 11: IllegalArgumentException: SLOTS that are not ALIVE, or more than L; no such COLD. IllegalStateException: 30 are gone");
        FrostMason x = Checks.told("block 9 9 0;slot 0 0 2 0 9;slot 0 0 4 0 9;slot 0 0 6 0 9;odds 0 5 8;water 2;");
        String before = Checks.all(x);
        Checks.refuses("more than L", Checks.ARGUMENT, () -> x.night(7, 9));
        Checks.refuses("more than L, drawn", Checks.ARGUMENT, () -> x.night(7, -1));
        Checks.refuses("no such slot", Checks.ARGUMENT, () -> x.night(8, 0));
        Checks.refuses("no such slot", Checks.ARGUMENT, () -> x.night(9, -1));
        Checks.refuses("no such slot", Checks.ARGUMENT, () -> x.night(Integer.MIN_VALUE, -1));
        Checks.refusesOutside("cold", -1, 9, Checks.ARGUMENT, cold -> x.night(1, cold));
        Checks.same("all that can be seen", before, Checks.all(x));
        Checks.is("cold 0", 0, x.night(3, 0));
        Checks.is("cold 9", 2, x.night(3, 9));
        Checks.refuses("split", Checks.ARGUMENT, () -> x.night(1, 9));
        Checks.pass(x, 28);
        Checks.refuses("30 are gone", Checks.STATE, () -> x.night(0, 0));
        Checks.refuses("30 are gone, an alive one", Checks.STATE, () -> x.night(4, 9));
        Checks.is("nothing has split", 2, x.sums(4));
    }

    private static void nightHowManySplit() {
        Checks.says("Promise 11: how many SPLIT");
        FrostMason x = Checks.told("block 9 9 0;slot 0 0 2 0 9;slot 0 0 4 0 3;slot 0 0 6 0 3;slot 0 0 6 8 3;");
        Checks.is("nothing filled", 0, x.night(0, 9));
        Checks.is("one of two", 1, x.night(3, 2));
        Checks.is("of this night alone, and one that is dead by then", 1, x.night(12, 9));
        Checks.is("the last", 1, x.night(2, 4));
        Checks.is("all", 3, x.sums(4));
    }

    private static void sums() {
        Checks.says("Promise 12: 0 to 7; IllegalArgumentException: another what");
        FrostMason x = Checks.told("block 5 4 1;block 3 3 0;slot 0 0 2 1 3;slot 1 0 1 0 2;order 4 1 1 9 11;order 9 9 1 9 1;");
        x.seed(Checks.seedFor(0, 4));
        x.night(3, 5);
        int[] due = {29, 25, 4, 11, 2, 1, 0, 3};
        for (int what = 0; what < 8; what++) {
            Checks.is("sums(" + what + ")", due[what], x.sums(what));
        }
        Checks.refusesOutside("sums", 0, 7, Checks.ARGUMENT, what -> x.sums(what));
        FrostMason all = Checks.told(Checks.times(6, "block 12 12 0;"));
        Checks.is("the most stone", 864, all.sums(0));
        Checks.is("the most stone", 864, all.sums(1));
        Checks.is("nothing is taken", 0, all.sums(2));
    }

    private static void sumsOfNoOrdersSize() {
        Checks.says("Promise 12: 7 lying PIECES that are of no ORDER's size");
        FrostMason x = Checks.told("block 2 3 0;block 3 2 0;block 3 3 0;order 2 3 1 0 1;thaw 1;");
        Checks.is("either way", 1, x.sums(7));
        x.night(0, 0);
        Checks.is("one is taken; of a full order's size is of one's size", 1, x.sums(7));
        x.night(0, 0);
        Checks.is("behind the order's night too", 1, x.sums(7));
        Checks.is("no orders", 3, Checks.told("block 2 3 0;block 3 2 0;block 3 3 0;").sums(7));
    }

    private static void trace() {
        Checks.says("Promise 13: The i-th split; -2: none such; IllegalArgumentException: another what");
        FrostMason x = Checks.told(QUARRY);
        Checks.is("none yet", -2, x.trace(0, 0));
        Checks.is("none yet", -2, x.trace(0, 3));
        x.night(0, 3);
        x.night(1, 9);
        int[] due = {0, 1, 9, 0};
        for (int what = 0; what < 4; what++) {
            Checks.is("trace(0, " + what + ")", due[what], x.trace(0, what));
            Checks.is("trace(1, " + what + ")", -2, x.trace(1, what));
            Checks.is("trace(-1, " + what + ")", -2, x.trace(-1, what));
        }
        for (int far : Checks.FAR) {
            Checks.is("trace(" + far + ")", -2, x.trace(far, 0));
        }
        Checks.refusesOutside("trace", 0, 3, Checks.ARGUMENT, what -> x.trace(0, what));
        x.seed(Checks.seedFor(1, 4));
        x.night(2, 5);
        Checks.is("1 astray", 1, x.trace(1, 3));
        Checks.is("its slot", 1, x.trace(1, 0));
        Checks.is("its night", 2, x.trace(1, 1));
        Checks.is("its cold", 5, x.trace(1, 2));
        Checks.is("none such", -2, x.trace(2, 0));
    }

    private static void cold() {
        Checks.says("Promise 14: COLD of a NIGHT that is gone; NONE");
        FrostMason x = Checks.told("odds 1 7 8;");
        Checks.is("none gone", -1, x.cold(0));
        x.night(0, 0);
        Checks.is("cold 0", 0, x.cold(0));
        Checks.is("not gone", -1, x.cold(1));
        x.night(0, -1);
        Checks.is("drawn", 7, x.cold(1));
        Checks.is("not gone", -1, x.cold(2));
        Checks.is("below 0", -1, x.cold(-1));
        Checks.is("no night", -1, x.cold(30));
        for (int far : Checks.FAR) {
            Checks.is("cold(" + far + ")", -1, x.cold(far));
        }
        Checks.pass(x, 27);
        x.night(0, 5);
        Checks.is("the last", 5, x.cold(29));
        Checks.is("behind the last", -1, x.cold(30));
        x.quarry(0);
        Checks.is("none gone", -1, x.cold(0));
    }

    private static void undone() {
        Checks.says("Promise 15: ALIVE ones, as bits");
        FrostMason x = Checks.told("block 2 2 0;block 2 2 0;" + Checks.times(11, "slot 0 0 1 0 9;") + "slot 1 0 1 0 9;");
        Checks.is("all twelve", 4095, x.undone());
        x.night(1 << 10, 9);
        Checks.is("all lines alike are edges now", 2048, x.undone());
        x.night(2048, 9);
        Checks.is("none", 0, x.undone());
    }

    private static void left() {
        Checks.says("Promise 16: NoSuchElementException, IllegalArgumentException; way 0 to 2, what 0, 1");
        FrostMason x = Checks.told(QUARRY);
        Checks.refusesOutside("left of a slot", 0, 1, Checks.NO_SUCH, slot -> x.left(slot, 1, 0));
        Checks.refusesOutside("left of a way", 0, 2, Checks.ARGUMENT, way -> x.left(0, way, 0));
        Checks.refusesOutside("left of a what", 0, 1, Checks.ARGUMENT, what -> x.left(0, 1, what));
        int[][] due = {{3, 9}, {6, 6}, {9, 3}};
        int[][] other = {{4, 16}, {8, 12}, {12, 8}};
        FrostMason down = Checks.told("block 3 4 0;slot 0 1 2 1 3;");
        for (int way = 0; way < 3; way++) {
            Checks.is("a line down, lower, way " + way, 3 + 3 * way, down.left(0, way, 0));
            Checks.is("a line down, upper, way " + way, 9 - 3 * way, down.left(0, way, 1));
            for (int what = 0; what < 2; what++) {
                Checks.is("left(0, " + way + ", " + what + ")", due[way][what], x.left(0, way, what));
                Checks.is("left(1, " + way + ", " + what + ")", other[way][what], x.left(1, way, what));
            }
        }
        x.night(1, 9);
        for (int way = 0; way < 3; way++) {
            Checks.is("not alive", -1, x.left(0, way, 0));
            Checks.is("not alive", -1, x.left(0, way, 1));
        }
        Checks.refuses("no such way, not alive", Checks.ARGUMENT, () -> x.left(0, 3, 0));
    }

    private static void leftCantGoSo() {
        Checks.says("Promise 16: NONE: it can't go so");
        FrostMason x = Checks.told("block 3 2 1;slot 0 0 1 0 1;slot 0 0 2 0 1;slot 0 1 1 0 1;");
        int[][] due = {{-1, 2, 4}, {2, 4, -1}, {-1, 3, -1}};
        int[][] upper = {{-1, 4, 2}, {4, 2, -1}, {-1, 3, -1}};
        for (int slot = 0; slot < 3; slot++) {
            for (int way = 0; way < 3; way++) {
                Checks.is("left(" + slot + ", " + way + ", 0)", due[slot][way], x.left(slot, way, 0));
                Checks.is("left(" + slot + ", " + way + ", 1)", upper[slot][way], x.left(slot, way, 1));
            }
        }
        // Of the PIECE, not of the BLOCK: line 3 is an edge behind the first split.
        FrostMason y = Checks.told("block 6 2 1;slot 0 0 3 0 9;slot 0 0 4 0 1;slot 0 0 2 0 1;");
        y.night(1, 9);
        int[][] parts = {{-1, 2, 4}, {2, 4, -1}};
        for (int slot = 1; slot < 3; slot++) {
            for (int way = 0; way < 3; way++) {
                Checks.is("left(" + slot + ", " + way + ", 0)", parts[slot - 1][way], y.left(slot, way, 0));
            }
        }
    }

    private static void fits() {
        Checks.says("Promise 17: Which ORDER's size that part would be (the first; way, part likewise); NONE");
        FrostMason x = Checks.told("block 4 3 0;slot 0 0 2 1 3;slot 0 0 3 1 3;order 9 9 1 0 1;order 3 1 1 0 1;order 1 3 1 0 1;order 3 3 1 0 1;");
        int[][] due = {{1, -1, 3}, {3, -1, 1}};
        for (int way = 0; way < 3; way++) {
            Checks.is("lower, way " + way, due[0][way], x.fits(0, way, 0));
            Checks.is("upper, way " + way, due[1][way], x.fits(0, way, 1));
        }
        Checks.is("can't go so", -1, x.fits(1, 2, 0));
        Checks.is("can't go so", -1, x.fits(1, 2, 1));
        Checks.is("goes so", 3, x.fits(1, 1, 0));
        Checks.refusesOutside("fits of a slot", 0, 1, Checks.NO_SUCH, slot -> x.fits(slot, 1, 0));
        Checks.refusesOutside("fits of a way", 0, 2, Checks.ARGUMENT, way -> x.fits(0, way, 0));
        Checks.refusesOutside("fits of a part", 0, 1, Checks.ARGUMENT, part -> x.fits(0, 1, part));
        x.night(1, 9);
        for (int way = 0; way < 3; way++) {
            Checks.is("not alive", -1, x.fits(0, way, 0));
            Checks.is("not alive", -1, x.fits(0, way, 1));
        }
        FrostMason down = Checks.told("block 3 4 0;slot 0 1 2 1 3;order 3 1 1 0 1;order 3 3 1 0 1;order 3 2 1 0 1;");
        int[] lower = {0, 2, 1};
        for (int way = 0; way < 3; way++) {
            Checks.is("a line down, lower, way " + way, lower[way], down.fits(0, way, 0));
            Checks.is("a line down, upper, way " + way, lower[2 - way], down.fits(0, way, 1));
        }
        FrostMason last = Checks.told("block 4 3 0;slot 0 0 2 1 3;" + Checks.times(5, "order 9 9 1 0 1;") + "order 3 2 1 0 1;");
        Checks.is("the sixth order", 5, last.fits(0, 1, 0));
        Checks.is("no orders", -1, Checks.told("block 4 3 0;slot 0 0 2 1 3;").fits(0, 1, 0));
    }

    private static void planSlots() {
        Checks.says("Promise 18: SLOTS (bits; also not ALIVE ones); IllegalArgumentException: no such SLOTS");
        FrostMason x = Checks.told(QUARRY);
        Checks.is("none", 1, x.plan(0));
        Checks.is("all", 2, x.plan(3));
        Checks.refuses("a third", Checks.ARGUMENT, () -> x.plan(4));
        Checks.refuses("a third and the first", Checks.ARGUMENT, () -> x.plan(5));
        Checks.refuses("a third and all", Checks.ARGUMENT, () -> x.plan(7));
        Checks.refuses("below 0", Checks.ARGUMENT, () -> x.plan(-1));
        for (int far : Checks.FAR) {
            Checks.refuses("plan(" + far + ")", Checks.ARGUMENT, () -> x.plan(far));
        }
        Checks.is("nothing came to it", 2, x.count(0));
        x.night(1, 9);
        Checks.is("not alive ones", 3, x.plan(1));
        Checks.is("more than L", 1, Checks.told("block 9 9 0;slot 0 0 2 0 9;slot 0 0 4 0 9;water 0;").plan(3));
        FrostMason twelve = Checks.told("block 2 2 0;" + Checks.times(12, "slot 0 0 1 0 1;"));
        Checks.is("all twelve", 1, twelve.plan(4095));
        Checks.refuses("a thirteenth", Checks.ARGUMENT, () -> twelve.plan(4096));
        FrostMason none = Checks.told("block 2 2 0;");
        Checks.is("none of none", 1, none.plan(0));
        Checks.refuses("one of none", Checks.ARGUMENT, () -> none.plan(1));
    }

    private static void clear() {
        Checks.says("Promise 19: The PLAN goes: how many NIGHTS");
        FrostMason x = Checks.told(QUARRY);
        Checks.is("empty", 0, x.clear());
        x.plan(1);
        Checks.is("one", 1, x.clear());
        Checks.is("gone", 0, x.count(0));
        Checks.is("empty", 0, x.clear());
        for (int i = 0; i < 30; i++) {
            x.plan(1);
        }
        Checks.is("full", 30, x.clear());
        Checks.is("again", 1, x.plan(1));
    }

    private static void would() {
        Checks.says("Promise 20: 0 to 5; IllegalArgumentException: another what");
        FrostMason x = Checks.told("block 5 4 1;block 4 4 0;slot 0 0 2 1 3;slot 1 0 2 0 2;order 4 1 1 9 11;odds 0 5 8;odds 1 3 8;");
        x.plan(1);
        x.plan(2);
        x.plan(1);
        int seed = 0;
        while ((Checks.behind(Checks.behind(seed)) >>> 16 & 3) != 0) {
            seed++;
        }
        int[] due = {11, 1, 1, 1, 1, 1};
        for (int what = 0; what < 6; what++) {
            Checks.is("would(" + seed + ", " + what + ")", due[what], x.would(seed, what));
        }
        Checks.refusesOutside("would", 0, 5, Checks.ARGUMENT, what -> x.would(0, what));
        x.clear();
        for (int what = 0; what < 6; what++) {
            Checks.is("without a plan", 0, x.would(seed, what));
        }
        Checks.refusesOutside("would without a plan", 0, 5, Checks.ARGUMENT, what -> x.would(0, what));
        Checks.pass(x, 30);
        x.plan(1);
        for (int what = 0; what < 6; what++) {
            Checks.is("30 are gone", 0, x.would(seed, what));
        }
    }

    private static void promise() {
        Checks.says("Promise 21: NoSuchElementException: no such ORDER; IllegalArgumentException");
        FrostMason x = Checks.told(QUARRY);
        Checks.refusesOutside("promise of an order", 0, 0, Checks.NO_SUCH, order -> x.promise(order, 0, 1));
        Checks.refusesOutside("promise of so many", 1, 99, Checks.ARGUMENT, many -> x.promise(0, 0, many));
        Checks.is("none by no plan", 0, x.promise(0, Integer.MIN_VALUE, 99));
        FrostMason six = Checks.told("block 2 2 0;" + Checks.times(5, "order 1 1 1 1 1;") + "order 2 2 1 29 1;");
        six.plan(0);
        Checks.is("the sixth order", 99, six.promise(5, -50, 99));
        Checks.is("the fifth order", 0, six.promise(4, -50, 99));
    }

    private static void worthAndNow() {
        Checks.says("Promises 22 to 25: IllegalArgumentException: another what; IllegalStateException: 30 are gone");
        FrostMason x = Checks.told(QUARRY);
        Checks.refusesOutside("worth", 0, 1, Checks.ARGUMENT, what -> x.worth(what));
        Checks.refusesOutside("now", 0, 1, Checks.ARGUMENT, what -> x.now(0, what));
        Checks.refuses("no such slot", Checks.ARGUMENT, () -> x.now(4, 0));
        Checks.pass(x, 29);
        Checks.is("night 29", 0, x.tonight());
        Checks.is("night 29", 1, x.worth(1));
        Checks.is("night 29", 1, x.now(0, 1));
        Checks.is("night 29", 0, x.deeper());
        x.night(0, 0);
        String before = Checks.all(x);
        Checks.refuses("tonight", Checks.STATE, () -> x.tonight());
        Checks.refuses("worth", Checks.STATE, () -> x.worth(0));
        Checks.refuses("now", Checks.STATE, () -> x.now(0, 0));
        Checks.refuses("deeper", Checks.STATE, () -> x.deeper());
        Checks.refuses("night", Checks.STATE, () -> x.night(0, 0));
        Checks.same("all that can be seen", before, Checks.all(x));
    }

    private static void keptNoLongerThanTrue() {
        Checks.says("Promises 22 and 23: TONIGHT as the quarry stands now");
        FrostMason x = Checks.told("block 4 3 0;slot 0 0 2 1 3;order 2 3 2 5 10;odds 0 9 8;odds 1 9 4;odds 2 9 2;");
        Checks.is("nights 0 and 1", 20, x.worth(0));
        x.image();
        x.night(0, 0);
        Checks.is("nights 1 and 2: 5 of 8", 25, x.worth(0));
        Checks.is("nights 1 and 2: 5 of 8", 2, x.worth(1));
        x.restore();
        Checks.is("nights 0 and 1 again", 20, x.worth(0));
        Checks.is("a fault", -9, Checks.tell(x, "x"));
        Checks.is("all stays", 20, x.worth(0));
        Checks.is("another quarry", 1, Checks.tell(x, "block 4 3 0;slot 0 0 2 1 3;order 2 3 2 5 7;odds 0 9 8;"));
        Checks.is("its worth", 14, x.worth(0));
        Checks.is("its set", 1, x.tonight());
        // A set chosen ahead is not the answer where nothing can be paid any more.
        String[] ends = {"order 2 3 2 0 10;", "order 2 3 2 29 10;thaw 1;"};
        for (String end : ends) {
            FrostMason y = Checks.told("block 4 3 0;slot 0 0 2 1 3;odds 0 9 8;odds 1 9 8;" + end);
            Checks.is("a set", 1, y.tonight());
            y.night(0, 0);
            Checks.is("nothing can be paid any more", 0, y.tonight());
            Checks.is("nothing can be paid any more", 0, y.worth(0));
            Checks.is("the first alive", 0, y.deeper());
        }
    }

    private static void allFull() {
        Checks.says("6 BLOCKS, 12 SLOTS, 6 ORDERS, 18 PIECES, all at once");
        // Each block of 6 by 2 is split at 2 and at 4 into three of 2 by 2.
        StringBuilder text = new StringBuilder(Checks.times(6, "block 6 2 0;"));
        for (int slot = 0; slot < 12; slot++) {
            text.append("slot ").append(slot / 2).append(" 0 ").append(2 + slot % 2 * 2).append(" 0 2;");
        }
        text.append("order 4 2 1 0 9;").append(Checks.times(5, "order 2 2 1 0 3;")).append("odds 0 3 8;");
        FrostMason x = Checks.told(text.toString());
        Checks.is("undone", 4095, x.undone());
        Checks.is("no frost for them", 0, x.tonight());
        Checks.is("one depth more", 0, x.deeper());
        x.plan(4095);
        Checks.is("bruises by a plan", 12, x.would(0, 5));
        Checks.is("left of the last", 8, x.left(11, 1, 0));
        Checks.is("fits of the last", 1, x.fits(11, 1, 1));
        Checks.is("promise of the last", 0, x.promise(5, 0, 9));
        Checks.is("six of twelve", 0, x.now(4032, 0));
        Checks.is("all split", 12, x.night(4095, 9));
        Checks.is("pieces", 18, x.told(7));
        Checks.is("the last piece", 6, x.piece(17, 2));
        Checks.refuses("piece(18)", Checks.INDEX, () -> x.piece(18, 0));
        Checks.is("the last split", 11, x.trace(11, 0));
        Checks.is("a thirteenth split", -2, x.trace(12, 0));
        Checks.is("the last order has its piece", 1, x.order(5, 5));
        Checks.is("paid", 15, x.sums(3));
        Checks.is("a tower of what lies", 13, x.tower());
        Checks.is("face of the last", 1, x.face(11));
        Checks.is("the plan fills nothing", 1, x.would(0, 3));
        Checks.is("orders that have all", 5, x.would(0, 4));
        Checks.is("nothing tonight", 0, x.tonight());
        Checks.is("none is alive", -1, x.deeper());
        FrostMason y = Checks.told(Checks.times(6, "block 6 2 0;") + Checks.times(11, "slot 0 0 2 0 2;") + "slot 1 0 2 0 2;" + Checks.times(6, "order 2 2 1 0 3;") + "odds 0 9 8;odds 1 9 8;thaw 9;");
        Checks.is("the first of eleven alike", 1, y.tonight());
        y.night(2048, 9);
        Checks.is("behind all orders' night", 0, y.tonight());
        Checks.is("the first alive", 0, y.deeper());
        FrostMason tower = Checks.told(text.substring(0, text.indexOf("order")));
        tower.night(4095, 9);
        Checks.is("a tower of all eighteen", 18, tower.tower());
        Checks.is("all of no order's size", 18, tower.sums(7));
    }

    private static void threeImages() {
        Checks.says("Promise 31: how many there are; -1: there are 3");
        FrostMason x = Checks.told(QUARRY);
        String[] seen = new String[4];
        for (int i = 0; i < 3; i++) {
            seen[i] = Checks.all(x);
            Checks.is("image", i + 1, x.image());
            Checks.is("count(2)", i + 1, x.count(2));
            x.night(0, i + 1);
        }
        seen[3] = Checks.all(x);
        Checks.is("a fourth", -1, x.image());
        Checks.is("a fourth", -1, x.image());
        Checks.is("still three", 3, x.count(2));
        Checks.same("nothing is changed", seen[3], Checks.all(x));
        Checks.says("Promise 32: All is as in the latest IMAGE, which is gone: how many are left");
        for (int i = 2; i >= 0; i--) {
            Checks.is("restore", i, x.restore());
            Checks.is("count(2)", i, x.count(2));
            Checks.is("night", i, x.told(6));
        }
        Checks.same("as in the first", seen[0], Checks.all(x));
        Checks.is("none is left", -1, x.restore());
        Checks.is("again", 1, x.image());
    }

    private static void imageOfAll() {
        Checks.says("Promise 31: An IMAGE of all");
        FrostMason x = used();
        String before = Checks.all(x);
        Checks.is("a second", 2, x.image());
        x.seed(5);
        x.clear();
        x.plan(0);
        x.thumb(false, false);
        x.night(2, 8);
        x.night(0, 7);
        Checks.is("restore", 1, x.restore());
        Checks.same("all that can be seen", before, Checks.all(x));
        Checks.is("cold of a night not gone any more", -1, x.cold(2));
        Checks.is("a split not made any more", -2, x.trace(1, 0));
        // The parts of a block that is whole again lie no more when it is taken.
        FrostMason whole = Checks.told("block 4 3 0;slot 0 0 2 1 3;order 4 3 1 5 1;");
        whole.image();
        whole.night(1, 9);
        whole.restore();
        whole.night(0, 0);
        Checks.is("taken whole", 12, whole.sums(2));
        Checks.is("the slot's piece is taken", -1, whole.slot(0, 7));
        Checks.is("the slot is not alive", 0, whole.undone());
        Checks.is("no tower", 0, whole.tower());
        FrostMason full = new FrostMason();
        for (int i = 0; i < 30; i++) {
            full.plan(0);
        }
        for (int i = 0; i < 60; i++) {
            full.thumb(true, true);
        }
        full.image();
        full.clear();
        Checks.is("restore", 0, full.restore());
        Checks.is("a full plan", 30, full.count(0));
        Checks.is("a full plan", -1, full.plan(0));
        Checks.is("full records", -1, full.thumb(true, true));
        FrostMason last = new FrostMason();
        last.image();
        Checks.pass(last, 30);
        last.image();
        Checks.is("restore of night 30", 1, last.restore());
        Checks.refuses("30 are gone", Checks.STATE, () -> last.night(0, 0));
        Checks.is("restore of night 0", 0, last.restore());
        Checks.is("a night", 0, last.night(0, 0));
    }

    private static void imageNotOf() {
        Checks.says("Promise 31: of all but the QUARRY, the TAPE, and the FAULT");
        FrostMason x = Checks.told(QUARRY);
        x.image();
        Checks.is("a fault", -9, Checks.tell(x, "  x"));
        Checks.put(x, "thaw 5;");
        Checks.is("restore", 0, x.restore());
        Checks.is("the fault stays", 2, x.fault());
        Checks.is("the tape stays", 20, x.count(3));
        Checks.is("what stands on it too", 0, x.quarry(7));
        Checks.is("thaw", 5, x.told(5));
        FrostMason y = new FrostMason();
        Checks.put(y, "thaw 5;");
        y.image();
        y.quarry(7);
        Checks.is("images go with a new quarry", -1, y.restore());
        Checks.is("the quarry stays", 5, y.told(5));
        Checks.is("the tape stays empty", 0, y.count(3));
    }

    private static void restoreNone() {
        Checks.says("Promise 32: -1: there is none");
        FrostMason x = Checks.told(QUARRY);
        x.night(1, 9);
        x.plan(1);
        x.thumb(true, true);
        x.seed(7);
        String before = Checks.all(x);
        Checks.is("none", -1, x.restore());
        Checks.is("none", -1, x.restore());
        Checks.is("count(2)", 0, x.count(2));
        Checks.same("nothing is changed", before, Checks.all(x));
    }

    private static void imagesAndQuarries() {
        Checks.says("Promise 3: no IMAGES behind a quarry, all of them behind a FAULT");
        FrostMason x = Checks.told(QUARRY);
        for (int i = 0; i < 3; i++) {
            x.image();
        }
        Checks.is("a fault", -9, Checks.tell(x, "x"));
        Checks.is("three", 3, x.count(2));
        Checks.refuses("no bytes", Checks.ARGUMENT, () -> x.quarry(1));
        Checks.is("three", 3, x.count(2));
        Checks.is("quarry", 0, x.quarry(0));
        Checks.is("none", 0, x.count(2));
        Checks.is("again", 1, x.image());
    }

    private static void count() {
        Checks.says("Promise 33: 0 to 3; NONE for others");
        FrostMason x = Checks.told(QUARRY);
        x.plan(0);
        x.plan(0);
        x.plan(0);
        x.thumb(true, true);
        x.thumb(true, true);
        x.image();
        x.feed(0, 0, 0, 0, 0);
        int[] due = {3, 2, 1, 20};
        for (int what = 0; what < 4; what++) {
            Checks.is("count(" + what + ")", due[what], x.count(what));
        }
        Checks.is("count(4)", -1, x.count(4));
        Checks.is("count(-1)", -1, x.count(-1));
        for (int far : Checks.FAR) {
            Checks.is("count(" + far + ")", -1, x.count(far));
        }
    }

    private static void calls512() {
        Checks.says("An object is used for at most 512 calls");
        // Three of feed, one of quarry, 29 nights: the 510th call is the last one of seed.
        FrostMason x = Checks.told("block 4 3 0;slot 0 0 2 1 3;order 2 3 2 29 10;odds 29 9 8;");
        Checks.pass(x, 29);
        for (int calls = 33; calls < 510; calls++) {
            x.seed(calls);
        }
        Checks.is("the 511th call", 1, x.night(1, -1));
        Checks.is("the 512th call", 20, x.sums(3));
    }
}

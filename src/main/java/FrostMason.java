import java.util.Arrays;
import java.util.NoSuchElementException;

/** A quarry in which frost splits the stone; the document's promises say what each call answers. */
public final class FrostMason {
    public static final int NONE = -1;

    private static final int TAPE_BYTES = 600;
    private static final int FED_BYTES = 20;
    private static final int MOST_BLOCKS = 6;
    private static final int MOST_SLOTS = 12;
    private static final int MOST_ORDERS = 6;
    private static final int MOST_ODDS = 24;
    private static final int MOST_PIECES = MOST_BLOCKS + MOST_SLOTS;
    private static final int MOST_IMAGES = 3;
    private static final int MOST_SEEDS = 99;
    private static final int MOST_WEIGHED = 6;
    private static final int NIGHTS = 30;
    private static final int COLDEST = 9;
    private static final int COLDS = COLDEST + 1;
    private static final int DEEPEST = 9;
    /** Across the grain a crack may go astray in colds from NEED to ahead of so much more. */
    private static final int STRAYING = 2;
    private static final int NO_SUCH_SPLIT = -2;

    // What stands where in the row of a block, a slot, an order, odds, a piece: as the face numbers it.
    private static final int BLOCK_ROW = 3;
    private static final int BLOCK_WIDE = 0;
    private static final int BLOCK_HIGH = 1;
    private static final int BLOCK_GRAIN = 2;
    private static final int SLOT_ROW = 5;
    private static final int SLOT_BLOCK = 0;
    private static final int SLOT_WAY = 1;
    private static final int SLOT_LINE = 2;
    private static final int SLOT_ELSE = 3;
    private static final int SLOT_DEPTH = 4;
    private static final int ORDER_ROW = 5;
    private static final int ORDER_WIDE = 0;
    private static final int ORDER_HIGH = 1;
    private static final int ORDER_MANY = 2;
    private static final int ORDER_UNTIL = 3;
    private static final int ORDER_PRICE = 4;
    private static final int ODDS_ROW = 3;
    private static final int PIECE_ROW = 6;
    private static final int PIECE_BLOCK = 0;
    private static final int PIECE_X = 1;
    private static final int PIECE_X_END = 2;
    private static final int PIECE_Y = 3;
    private static final int PIECE_Y_END = 4;
    private static final int PIECE_LIES = 5;
    private static final int TRACE_ROW = 4;

    private final byte[] tape = new byte[TAPE_BYTES];
    private int tapeLength = 0;
    private int faultPlace = NONE;
    private final Ground ground = new Ground();
    private final Reader reader = new Reader(tape);
    private final Yard yard = new Yard(ground);
    private final Yard trial = new Yard(ground);
    private final Diary diary = new Diary();
    private final Yard[] imageYards = new Yard[MOST_IMAGES];
    private final Diary[] imageDiaries = new Diary[MOST_IMAGES];
    private int images = 0;
    private final Foresight foresight = new Foresight(ground);
    private final Tower towers = new Tower();
    private int idle = 0;
    // TONIGHT is dear to weigh and asked for in several calls, so it is kept until the yard changes.
    private boolean foreseen = false;
    private int foreseenSet = 0;
    private long foreseenSum = 0;

    public FrostMason() {
        for (int i = 0; i < MOST_IMAGES; i++) {
            imageYards[i] = new Yard(ground);
            imageDiaries[i] = new Diary();
        }
    }

    public int feed(int a, int b, int c, int d, int e) {
        if (tapeLength + FED_BYTES > TAPE_BYTES) {
            return NONE;
        }
        putOnTape(a);
        putOnTape(b);
        putOnTape(c);
        putOnTape(d);
        putOnTape(e);
        return tapeLength;
    }

    public int quarry(int n) throws IllegalArgumentException {
        if (n < 0 || n > tapeLength) {
            throw new IllegalArgumentException("so many bytes are not on the tape");
        }
        tapeLength = 0;
        reader.read(n);
        faultPlace = reader.place;
        if (reader.fault != 0) {
            return reader.fault - 10;
        }
        ground.copyFrom(reader.told);
        yard.begin();
        diary.begin();
        images = 0;
        foreseen = false;
        return ground.blockCount;
    }

    public int fault() {
        return faultPlace;
    }

    public int told(int what) throws IllegalArgumentException {
        switch (what) {
            case 0: return ground.blockCount;
            case 1: return ground.slotCount;
            case 2: return ground.orderCount;
            case 3: return ground.water;
            case 4: return ground.sledge;
            case 5: return ground.thaw;
            case 6: return yard.night;
            case 7: return yard.pieceCount;
            default: throw new IllegalArgumentException("no such what");
        }
    }

    public int slot(int slot, int what) throws NoSuchElementException, IllegalArgumentException {
        checkSlot(slot);
        checkRange(what, 0, 7);
        switch (what) {
            case 4: return yard.depth[slot];
            case 5: return yard.needOf(slot);
            case 6: return yard.isAlive(slot) ? 1 : 0;
            case 7: return yard.pieceUnder(slot);
            default: return ground.slots[slot * SLOT_ROW + what];
        }
    }

    public int order(int order, int what) throws NoSuchElementException, IllegalArgumentException {
        checkOrder(order);
        checkRange(what, 0, 5);
        return what == 5 ? yard.has[order] : ground.orders[order * ORDER_ROW + what];
    }

    public int piece(int piece, int what) throws IndexOutOfBoundsException, IllegalArgumentException {
        if (piece < 0 || piece >= yard.pieceCount) {
            throw new IndexOutOfBoundsException("no such piece");
        }
        checkRange(what, 0, 5);
        return yard.pieces[piece * PIECE_ROW + what];
    }

    public int odds(int night, int k) throws IllegalArgumentException {
        checkRange(night, 0, NIGHTS - 1);
        checkRange(k, 1, COLDEST);
        int parts = 0;
        for (int cold = k; cold < COLDS; cold++) {
            parts += ground.parts[night * COLDS + cold];
        }
        return parts;
    }

    public int seed(int seed) {
        int before = yard.luck.bits;
        yard.luck.bits = seed;
        return before;
    }

    public int night(int fill, int cold) throws IllegalArgumentException, IllegalStateException {
        checkFill(fill);
        checkRange(cold, NONE, COLDEST);
        checkNightLeft();
        foreseen = false;
        int due = cold == NONE ? yard.drawCold() : cold;
        return yard.goThrough(fill, due, yard.luck);
    }

    public int sums(int what) throws IllegalArgumentException {
        switch (what) {
            case 0: return yard.stone(true) + yard.stone(false);
            case 1: return yard.stone(true);
            case 2: return yard.stone(false);
            case 3: return yard.paid;
            case 4: return yard.splits;
            case 5: return yard.astray;
            case 6: return yard.bruises;
            case 7: return yard.unwanted();
            default: throw new IllegalArgumentException("no such what");
        }
    }

    public int trace(int i, int what) throws IllegalArgumentException {
        checkRange(what, 0, TRACE_ROW - 1);
        if (i < 0 || i >= yard.splits) {
            return NO_SUCH_SPLIT;
        }
        return yard.trace[i * TRACE_ROW + what];
    }

    public int cold(int night) {
        return night < 0 || night >= yard.night ? NONE : yard.colds[night];
    }

    public int undone() {
        return yard.firstAlive(MOST_SLOTS);
    }

    public int left(int slot, int way, int what) throws NoSuchElementException, IllegalArgumentException {
        checkSlot(slot);
        checkRange(way, 0, 2);
        checkRange(what, 0, 1);
        if (!yard.canSplit(slot, way - 1)) {
            return NONE;
        }
        return yard.partWide(slot, way - 1, what) * yard.partHigh(slot, way - 1, what);
    }

    public int fits(int slot, int way, int part) throws NoSuchElementException, IllegalArgumentException {
        checkSlot(slot);
        checkRange(way, 0, 2);
        checkRange(part, 0, 1);
        if (!yard.canSplit(slot, way - 1)) {
            return NONE;
        }
        return ground.orderOfSize(yard.partWide(slot, way - 1, part), yard.partHigh(slot, way - 1, part));
    }

    public int plan(int fill) throws IllegalArgumentException {
        if (fill < 0 || fill >= 1 << ground.slotCount) {
            throw new IllegalArgumentException("no such slots");
        }
        return diary.addPlan(fill);
    }

    public int clear() {
        int nights = diary.planNights;
        diary.planNights = 0;
        return nights;
    }

    public int would(int seed, int what) throws IllegalArgumentException {
        checkRange(what, 0, 5);
        followPlan(seed);
        switch (what) {
            case 0: return trial.paid - yard.paid;
            case 1: return trial.splits - yard.splits;
            case 2: return trial.astray - yard.astray;
            case 3: return idle;
            case 4: return trial.ordersDone();
            default: return trial.bruises - yard.bruises;
        }
    }

    public int promise(int order, int seed, int many) throws NoSuchElementException, IllegalArgumentException {
        checkOrder(order);
        checkRange(many, 1, MOST_SEEDS);
        int kept = 0;
        for (int i = 0; i < many; i++) {
            followPlan(seed + i);
            if (trial.isDone(order)) {
                kept++;
            }
        }
        return kept;
    }

    public int tonight() throws IllegalStateException {
        checkNightLeft();
        foresee();
        return foreseenSet;
    }

    public long worth(int what) throws IllegalArgumentException, IllegalStateException {
        checkRange(what, 0, 1);
        checkNightLeft();
        foresee();
        return inLeastTerms(foreseenSum, Foresight.NIGHT_PARTS * Foresight.NIGHT_PARTS, what);
    }

    public long now(int fill, int what) throws IllegalArgumentException, IllegalStateException {
        checkFill(fill);
        checkRange(Integer.bitCount(fill), 0, MOST_WEIGHED);
        checkRange(what, 0, 1);
        checkNightLeft();
        return inLeastTerms(foresight.sumOf(yard, fill, 1), Foresight.NIGHT_PARTS, what);
    }

    public int deeper() throws IllegalStateException {
        checkNightLeft();
        int best = NONE;
        long most = NONE;
        for (int slot = 0; slot < ground.slotCount; slot++) {
            if (yard.isAlive(slot)) {
                long sum = sumIfDeeper(slot);
                if (sum > most) {
                    most = sum;
                    best = slot;
                }
            }
        }
        return best;
    }

    public int thumb(boolean said, boolean came) {
        return diary.addRecord(said, came);
    }

    public int trust(boolean said, int what) throws IllegalArgumentException {
        checkRange(what, 0, 1);
        int came = diary.recordsOf(said, true);
        int all = came + diary.recordsOf(said, false);
        if (all == 0) {
            return what;
        }
        return (int) inLeastTerms(came, all, what);
    }

    public int listening() {
        int right = diary.recordsOf(true, true) + diary.recordsOf(false, false);
        int frosts = diary.recordsOf(true, true) + diary.recordsOf(false, true);
        return right - Math.max(frosts, diary.records() - frosts);
    }

    public int tower() {
        return towers.highest(yard);
    }

    public int face(int slot) throws NoSuchElementException {
        checkSlot(slot);
        int need = yard.needOf(slot);
        int nights = 0;
        for (int night = 0; night < yard.night && night < NIGHTS; night++) {
            if (yard.colds[night] >= need) {
                nights |= 1 << night;
            }
        }
        return nights;
    }

    public int image() {
        if (images >= MOST_IMAGES) {
            return NONE;
        }
        imageYards[images].copyFrom(yard);
        imageDiaries[images].copyFrom(diary);
        images++;
        return images;
    }

    public int restore() {
        if (images < 1) {
            return NONE;
        }
        images--;
        yard.copyFrom(imageYards[images]);
        diary.copyFrom(imageDiaries[images]);
        foreseen = false;
        return images;
    }

    public int count(int what) {
        switch (what) {
            case 0: return diary.planNights;
            case 1: return diary.records();
            case 2: return images;
            case 3: return tapeLength;
            default: return NONE;
        }
    }

    private void putOnTape(int number) {
        for (int shift = 24; shift >= 0 && tapeLength < TAPE_BYTES; shift -= 8) {
            tape[tapeLength] = (byte) (number >>> shift);
            tapeLength++;
        }
    }

    private void checkSlot(int slot) {
        if (slot < 0 || slot >= ground.slotCount) {
            throw new NoSuchElementException("no such slot");
        }
    }

    private void checkOrder(int order) {
        if (order < 0 || order >= ground.orderCount) {
            throw new NoSuchElementException("no such order");
        }
    }

    private void checkFill(int fill) {
        if ((fill & ~yard.firstAlive(MOST_SLOTS)) != 0) {
            throw new IllegalArgumentException("slots that are not alive");
        }
        if (Integer.bitCount(fill) > ground.water) {
            throw new IllegalArgumentException("more slots than there is water for");
        }
    }

    private void checkNightLeft() {
        if (yard.night >= NIGHTS) {
            throw new IllegalStateException("all nights are gone");
        }
    }

    private static void checkRange(int number, int least, int most) {
        if (number < least || number > most) {
            throw new IllegalArgumentException("no such number");
        }
    }

    /** The yard on trial goes through the PLAN; IDLE nights are counted on the way. */
    private void followPlan(int seed) {
        trial.copyFrom(yard);
        trial.luck.bits = seed;
        idle = 0;
        for (int i = 0; i < diary.planNights && trial.night < NIGHTS; i++) {
            int fill = trial.fillable(diary.planOf(i));
            if (fill == 0) {
                idle++;
            }
            trial.goThrough(fill, trial.drawCold(), trial.luck);
        }
    }

    private void foresee() {
        if (!foreseen) {
            foreseenSum = foresight.mostOf(yard, Foresight.NIGHTS_AHEAD);
            foreseenSet = foresight.bestSet;
            foreseen = true;
        }
    }

    private long sumIfDeeper(int slot) {
        trial.copyFrom(yard);
        trial.depth[slot] = Math.min(DEEPEST, yard.depth[slot] + 1);
        return foresight.mostOf(trial, Foresight.NIGHTS_AHEAD);
    }

    /** Above (what 0) or below (what 1) of a fraction in least terms; below is above 0. */
    private static long inLeastTerms(long above, long below, int what) {
        long a = above;
        long b = below;
        for (int i = 0; i < 100 && b != 0; i++) {
            long rest = a % b;
            a = b;
            b = rest;
        }
        long chosen = what == 0 ? above : below;
        return a == 0 ? chosen : chosen / a;
    }

    /** What a QUARRY tells; nothing here changes while nights go by. */
    private static final class Ground {
        private final int[] blocks = new int[MOST_BLOCKS * BLOCK_ROW];
        private final int[] slots = new int[MOST_SLOTS * SLOT_ROW];
        private final int[] orders = new int[MOST_ORDERS * ORDER_ROW];
        private final int[] oddsRows = new int[MOST_ODDS * ODDS_ROW];
        /** Of each night and cold how many of 8; cold 0 has what the odds leave. */
        private final int[] parts = new int[NIGHTS * COLDS];
        private int blockCount;
        private int slotCount;
        private int orderCount;
        private int oddsCount;
        private int water;
        private int sledge;
        private int thaw;

        private Ground() {
            begin();
        }

        private void begin() {
            blockCount = 0;
            slotCount = 0;
            orderCount = 0;
            oddsCount = 0;
            water = 12;
            sledge = 9;
            thaw = NIGHTS;
            Arrays.fill(parts, 0);
            for (int night = 0; night < NIGHTS; night++) {
                parts[night * COLDS] = 8;
            }
        }

        private void copyFrom(Ground other) {
            System.arraycopy(other.blocks, 0, blocks, 0, blocks.length);
            System.arraycopy(other.slots, 0, slots, 0, slots.length);
            System.arraycopy(other.orders, 0, orders, 0, orders.length);
            System.arraycopy(other.oddsRows, 0, oddsRows, 0, oddsRows.length);
            System.arraycopy(other.parts, 0, parts, 0, parts.length);
            blockCount = other.blockCount;
            slotCount = other.slotCount;
            orderCount = other.orderCount;
            oddsCount = other.oddsCount;
            water = other.water;
            sledge = other.sledge;
            thaw = other.thaw;
        }

        private void addBlock(int wide, int high, int grain) {
            if (blockCount < MOST_BLOCKS) {
                int row = blockCount * BLOCK_ROW;
                blocks[row + BLOCK_WIDE] = wide;
                blocks[row + BLOCK_HIGH] = high;
                blocks[row + BLOCK_GRAIN] = grain;
                blockCount++;
            }
        }

        private void addSlot(int block, int way, int line, int elsewhere, int depth) {
            if (slotCount < MOST_SLOTS) {
                int row = slotCount * SLOT_ROW;
                slots[row + SLOT_BLOCK] = block;
                slots[row + SLOT_WAY] = way;
                slots[row + SLOT_LINE] = line;
                slots[row + SLOT_ELSE] = elsewhere;
                slots[row + SLOT_DEPTH] = depth;
                slotCount++;
            }
        }

        private void addOrder(int wide, int high, int many, int until, int price) {
            if (orderCount < MOST_ORDERS) {
                int row = orderCount * ORDER_ROW;
                orders[row + ORDER_WIDE] = wide;
                orders[row + ORDER_HIGH] = high;
                orders[row + ORDER_MANY] = many;
                orders[row + ORDER_UNTIL] = until;
                orders[row + ORDER_PRICE] = price;
                orderCount++;
            }
        }

        private void addOdds(int night, int cold, int eighths) {
            if (oddsCount < MOST_ODDS) {
                int row = oddsCount * ODDS_ROW;
                oddsRows[row] = night;
                oddsRows[row + 1] = cold;
                oddsRows[row + 2] = eighths;
                oddsCount++;
                parts[night * COLDS + cold] += eighths;
                parts[night * COLDS] -= eighths;
            }
        }

        private boolean hasOdds(int night) {
            return parts[night * COLDS] < 8;
        }

        /** The cold into which a draw below 8 falls. */
        private int coldOf(int night, int draw) {
            int passed = 0;
            for (int i = 0; i < oddsCount; i++) {
                if (oddsRows[i * ODDS_ROW] == night) {
                    passed += oddsRows[i * ODDS_ROW + 2];
                    if (draw < passed) {
                        return oddsRows[i * ODDS_ROW + 1];
                    }
                }
            }
            return 0;
        }

        private boolean isAcrossGrain(int slot) {
            int block = slots[slot * SLOT_ROW + SLOT_BLOCK];
            return slots[slot * SLOT_ROW + SLOT_WAY] != blocks[block * BLOCK_ROW + BLOCK_GRAIN];
        }

        private boolean isOfSize(int order, int wide, int high) {
            int orderWide = orders[order * ORDER_ROW + ORDER_WIDE];
            int orderHigh = orders[order * ORDER_ROW + ORDER_HIGH];
            return orderWide == wide && orderHigh == high || orderWide == high && orderHigh == wide;
        }

        private int orderOfSize(int wide, int high) {
            for (int order = 0; order < orderCount; order++) {
                if (isOfSize(order, wide, high)) {
                    return order;
                }
            }
            return NONE;
        }
    }

    /** Reads a QUARRY from the left and stops at its first FAULT. */
    private static final class Reader {
        private static final int MOST_CLAUSES = 60;
        private static final int NO_PLACE_FOR_IT = 1;
        private static final int NO_SUCH_NUMBER = 2;
        private static final int TOO_MANY = 3;
        /** Above every number that may stand, so that long ones need not be told apart. */
        private static final int TOO_GREAT = 10000;
        private static final int WORD_BLOCK = 0;
        private static final int WORD_SLOT = 1;
        private static final int WORD_ORDER = 2;
        private static final int WORD_ODDS = 3;
        private static final int WORD_WATER = 4;
        private static final int WORD_SLEDGE = 5;
        private static final int WORD_THAW = 6;

        private final byte[] text;
        private final Ground told = new Ground();
        private int length = 0;
        private int at = 0;
        private int clauses = 0;
        private int fault = 0;
        private int place = NONE;

        private Reader(byte[] text) {
            this.text = text;
        }

        private void read(int bytes) {
            told.begin();
            length = Math.min(bytes, text.length);
            at = 0;
            clauses = 0;
            fault = 0;
            place = NONE;
            skipBlanks();
            for (int i = 0; i <= MOST_CLAUSES && fault == 0 && at < length; i++) {
                readClause();
                skipBlanks();
            }
        }

        private void blame(int kind, int where) {
            if (fault == 0) {
                fault = kind;
                place = where;
            }
        }

        private void skipBlanks() {
            while (at < length && text[at] == ' ') {
                at++;
            }
        }

        private void readClause() {
            int start = at;
            int word = readWord();
            if (word == NONE) {
                blame(NO_PLACE_FOR_IT, start);
                return;
            }
            if (clauses >= MOST_CLAUSES || isFull(word)) {
                blame(TOO_MANY, start);
                return;
            }
            clauses++;
            readNumbers(word);
            readEnd();
        }

        private int readWord() {
            int start = at;
            while (at < length && text[at] >= 'a' && text[at] <= 'z') {
                at++;
            }
            if (isWord(start, "block")) {
                return WORD_BLOCK;
            }
            if (isWord(start, "slot")) {
                return WORD_SLOT;
            }
            if (isWord(start, "order")) {
                return WORD_ORDER;
            }
            if (isWord(start, "odds")) {
                return WORD_ODDS;
            }
            if (isWord(start, "water")) {
                return WORD_WATER;
            }
            if (isWord(start, "sledge")) {
                return WORD_SLEDGE;
            }
            return isWord(start, "thaw") ? WORD_THAW : NONE;
        }

        private boolean isWord(int start, String word) {
            if (at - start != word.length()) {
                return false;
            }
            for (int i = 0; i < word.length(); i++) {
                if (text[start + i] != word.charAt(i)) {
                    return false;
                }
            }
            return true;
        }

        private boolean isFull(int word) {
            switch (word) {
                case WORD_BLOCK: return told.blockCount >= MOST_BLOCKS;
                case WORD_SLOT: return told.slotCount >= MOST_SLOTS;
                case WORD_ORDER: return told.orderCount >= MOST_ORDERS;
                case WORD_ODDS: return told.oddsCount >= MOST_ODDS;
                default: return false;
            }
        }

        private void readNumbers(int word) {
            switch (word) {
                case WORD_BLOCK: readBlock(); break;
                case WORD_SLOT: readSlot(); break;
                case WORD_ORDER: readOrder(); break;
                case WORD_ODDS: readOdds(); break;
                case WORD_WATER: told.water = readNumber(0, 12); break;
                case WORD_SLEDGE: told.sledge = readNumber(0, 9); break;
                default: told.thaw = readNumber(0, NIGHTS); break;
            }
        }

        private void readBlock() {
            int wide = readNumber(2, 12);
            int high = readNumber(2, 12);
            int grain = readNumber(0, 1);
            if (fault == 0) {
                told.addBlock(wide, high, grain);
            }
        }

        private void readSlot() {
            int block = readNumber(0, told.blockCount - 1);
            int way = readNumber(0, 1);
            int wide = told.blocks[block * BLOCK_ROW + BLOCK_WIDE];
            int high = told.blocks[block * BLOCK_ROW + BLOCK_HIGH];
            int line = readNumber(1, (way == 0 ? wide : high) - 1);
            int elsewhere = readNumber(0, (way == 0 ? high : wide) - 1);
            int depth = readNumber(1, DEEPEST);
            if (fault == 0) {
                told.addSlot(block, way, line, elsewhere, depth);
            }
        }

        private void readOrder() {
            int wide = readNumber(1, 12);
            int high = readNumber(1, 12);
            int many = readNumber(1, 9);
            int until = readNumber(0, NIGHTS - 1);
            int price = readNumber(1, 99);
            if (fault == 0) {
                told.addOrder(wide, high, many, until, price);
            }
        }

        private void readOdds() {
            int night = readNumber(0, NIGHTS - 1);
            int cold = readNumber(1, COLDEST);
            int eighths = readNumber(1, told.parts[night * COLDS]);
            if (fault == 0) {
                told.addOdds(night, cold, eighths);
            }
        }

        /** The next number, if it is one from least to most; else there is a fault, and the answer is least. */
        private int readNumber(int least, int most) {
            if (fault != 0) {
                return least;
            }
            skipBlanks();
            int start = at;
            int number = 0;
            while (at < length && text[at] >= '0' && text[at] <= '9') {
                number = Math.min(TOO_GREAT, number * 10 + text[at] - '0');
                at++;
            }
            if (at == start) {
                blame(NO_PLACE_FOR_IT, start);
                return least;
            }
            if (number < least || number > most) {
                blame(NO_SUCH_NUMBER, start);
                return least;
            }
            return number;
        }

        private void readEnd() {
            if (fault != 0) {
                return;
            }
            skipBlanks();
            if (at < length && text[at] == ';') {
                at++;
            } else {
                blame(NO_PLACE_FOR_IT, at);
            }
        }
    }

    /** Where a crack's DRAWS below 4 come from. */
    private abstract static class Draws {
        abstract int quarter();
    }

    /** DRAWS by a SEED. */
    private static final class Luck extends Draws {
        private int bits = 0;

        private int eighth() {
            step();
            return bits >>> 16 & 7;
        }

        int quarter() {
            step();
            return bits >>> 16 & 3;
        }

        private void step() {
            bits = bits * 1103515245 + 12345;
        }
    }

    /** All rows of DRAWS below 4, one after the other; 2 stands for 3 too, as both leave the line where it is. */
    private static final class Ways extends Draws {
        private static final int STRAIGHT = 2;

        private final int[] row = new int[MOST_SLOTS];
        private int settled = 0;
        private int asked = 0;

        private void begin() {
            settled = 0;
            asked = 0;
        }

        int quarter() {
            if (asked >= row.length) {
                return STRAIGHT;
            }
            if (asked >= settled) {
                row[asked] = 0;
                settled = asked + 1;
            }
            int draw = row[asked];
            asked++;
            return draw;
        }

        /** In how many of 4 to the power of MOST_WEIGHED the DRAWS fall as they did. */
        private long weight() {
            long weight = 1;
            for (int i = 0; i < MOST_WEIGHED; i++) {
                if (i >= asked) {
                    weight *= 4;
                } else if (row[i] == STRAIGHT) {
                    weight *= 2;
                }
            }
            return weight;
        }

        /** On to the next row of draws; false if there is none. */
        private boolean advance() {
            asked = 0;
            while (settled > 0 && row[settled - 1] >= STRAIGHT) {
                settled--;
            }
            if (settled < 1) {
                return false;
            }
            row[settled - 1]++;
            return true;
        }
    }

    /** The quarry as it stands behind some nights. */
    private static final class Yard {
        private final Ground ground;
        private final int[] pieces = new int[MOST_PIECES * PIECE_ROW];
        private int pieceCount = 0;
        private final int[] depth = new int[MOST_SLOTS];
        private int splitSlots = 0;
        private final int[] has = new int[MOST_ORDERS];
        private final int[] colds = new int[NIGHTS];
        private final int[] trace = new int[MOST_SLOTS * TRACE_ROW];
        private final Luck luck = new Luck();
        private int night = 0;
        private int paid = 0;
        private int splits = 0;
        private int astray = 0;
        private int bruises = 0;

        private Yard(Ground ground) {
            this.ground = ground;
        }

        private void begin() {
            pieceCount = 0;
            for (int block = 0; block < ground.blockCount; block++) {
                int row = pieceCount * PIECE_ROW;
                pieces[row + PIECE_BLOCK] = block;
                pieces[row + PIECE_X] = 0;
                pieces[row + PIECE_X_END] = ground.blocks[block * BLOCK_ROW + BLOCK_WIDE];
                pieces[row + PIECE_Y] = 0;
                pieces[row + PIECE_Y_END] = ground.blocks[block * BLOCK_ROW + BLOCK_HIGH];
                pieces[row + PIECE_LIES] = 1;
                pieceCount++;
            }
            for (int slot = 0; slot < ground.slotCount; slot++) {
                depth[slot] = ground.slots[slot * SLOT_ROW + SLOT_DEPTH];
            }
            Arrays.fill(has, 0);
            splitSlots = 0;
            luck.bits = 0;
            night = 0;
            paid = 0;
            splits = 0;
            astray = 0;
            bruises = 0;
        }

        private void copyFrom(Yard other) {
            System.arraycopy(other.pieces, 0, pieces, 0, other.pieceCount * PIECE_ROW);
            pieceCount = other.pieceCount;
            System.arraycopy(other.depth, 0, depth, 0, depth.length);
            splitSlots = other.splitSlots;
            System.arraycopy(other.has, 0, has, 0, has.length);
            System.arraycopy(other.colds, 0, colds, 0, other.night);
            System.arraycopy(other.trace, 0, trace, 0, other.splits * TRACE_ROW);
            luck.bits = other.luck.bits;
            night = other.night;
            paid = other.paid;
            splits = other.splits;
            astray = other.astray;
            bruises = other.bruises;
        }

        private int needOf(int slot) {
            return (ground.isAcrossGrain(slot) ? 6 : 4) - depth[slot] / 3;
        }

        /** The lying piece in which a slot's point lies, or NONE. */
        private int pieceUnder(int slot) {
            int told = slot * SLOT_ROW;
            boolean lineIsX = ground.slots[told + SLOT_WAY] == 0;
            int x = ground.slots[told + (lineIsX ? SLOT_LINE : SLOT_ELSE)];
            int y = ground.slots[told + (lineIsX ? SLOT_ELSE : SLOT_LINE)];
            int block = ground.slots[told + SLOT_BLOCK];
            for (int piece = 0; piece < pieceCount; piece++) {
                int row = piece * PIECE_ROW;
                if (pieces[row + PIECE_BLOCK] == block && pieces[row + PIECE_LIES] == 1
                        && pieces[row + PIECE_X] <= x && x < pieces[row + PIECE_X_END]
                        && pieces[row + PIECE_Y] <= y && y < pieces[row + PIECE_Y_END]) {
                    return piece;
                }
            }
            return NONE;
        }

        /** Where the piece's edge below this slot's line stands among the pieces; the edge above it stands next. */
        private int lowEdge(int piece, int slot) {
            return piece * PIECE_ROW + (ground.slots[slot * SLOT_ROW + SLOT_WAY] == 0 ? PIECE_X : PIECE_Y);
        }

        private boolean isInside(int piece, int slot, int line) {
            if (piece == NONE) {
                return false;
            }
            int edge = lowEdge(piece, slot);
            return pieces[edge] < line && line < pieces[edge + 1];
        }

        private boolean isAlive(int slot) {
            if ((splitSlots >> slot & 1) == 1) {
                return false;
            }
            int piece = pieceUnder(slot);
            return piece != NONE && isInside(piece, slot, ground.slots[slot * SLOT_ROW + SLOT_LINE]);
        }

        /** Whether the slot is ALIVE and its line, so far from where it was told, is still inside the piece. */
        private boolean canSplit(int slot, int away) {
            return isAlive(slot) && isInside(pieceUnder(slot), slot, ground.slots[slot * SLOT_ROW + SLOT_LINE] + away);
        }

        /** The first ALIVE slots, so many at most, as bits. */
        private int firstAlive(int most) {
            int found = 0;
            int bits = 0;
            for (int slot = 0; slot < ground.slotCount && found < most; slot++) {
                if (isAlive(slot)) {
                    bits |= 1 << slot;
                    found++;
                }
            }
            return bits;
        }

        /** What of a PLAN's slots can be filled now: ALIVE ones, the least numbers, as far as the water goes. */
        private int fillable(int planned) {
            int found = 0;
            int bits = 0;
            for (int slot = 0; slot < ground.slotCount && found < ground.water; slot++) {
                if ((planned >> slot & 1) == 1 && isAlive(slot)) {
                    bits |= 1 << slot;
                    found++;
                }
            }
            return bits;
        }

        private int partWide(int slot, int away, int part) {
            return partSide(slot, away, part, true);
        }

        private int partHigh(int slot, int away, int part) {
            return partSide(slot, away, part, false);
        }

        /** A side of the lower (0) or upper (1) part into which the slot would split its piece. */
        private int partSide(int slot, int away, int part, boolean wide) {
            int piece = pieceUnder(slot);
            if (piece == NONE) {
                return 0;
            }
            int told = slot * SLOT_ROW;
            boolean lineIsX = ground.slots[told + SLOT_WAY] == 0;
            if (lineIsX != wide) {
                return wide ? pieceWide(piece) : pieceHigh(piece);
            }
            int edge = lowEdge(piece, slot);
            int line = ground.slots[told + SLOT_LINE] + away;
            return part == 0 ? line - pieces[edge] : pieces[edge + 1] - line;
        }

        private int pieceWide(int piece) {
            return pieces[piece * PIECE_ROW + PIECE_X_END] - pieces[piece * PIECE_ROW + PIECE_X];
        }

        private int pieceHigh(int piece) {
            return pieces[piece * PIECE_ROW + PIECE_Y_END] - pieces[piece * PIECE_ROW + PIECE_Y];
        }

        private boolean isLying(int piece) {
            return pieces[piece * PIECE_ROW + PIECE_LIES] == 1;
        }

        private int drawCold() {
            return night < NIGHTS && ground.hasOdds(night) ? ground.coldOf(night, luck.eighth()) : 0;
        }

        /** Whether two colds do the same to every slot filled. */
        private boolean actAlike(int fill, int cold, int otherCold) {
            for (int slot = 0; slot < ground.slotCount && fill >> slot != 0; slot++) {
                if ((fill >> slot & 1) == 1 && effectOf(slot, cold) != effectOf(slot, otherCold)) {
                    return false;
                }
            }
            return true;
        }

        /** What a cold does to a slot: nothing, a bruise, a split that may go astray, one that may not. */
        private int effectOf(int slot, int cold) {
            int need = needOf(slot);
            if (cold < need) {
                return cold == 0 ? 0 : 1;
            }
            return ground.isAcrossGrain(slot) && cold < need + STRAYING ? 2 : 3;
        }

        /** A NIGHT goes by: how many slots split in it. */
        private int goThrough(int fill, int cold, Draws draws) {
            if (night >= NIGHTS) {
                return 0;
            }
            int before = splits;
            for (int slot = 0; slot < ground.slotCount && fill >> slot != 0; slot++) {
                if ((fill >> slot & 1) == 1 && isAlive(slot)) {
                    if (cold >= needOf(slot)) {
                        split(slot, cold, draws);
                    } else if (cold > 0) {
                        bruise(slot);
                    }
                }
            }
            if (night < ground.thaw) {
                deliver();
            }
            colds[night] = cold;
            night++;
            return splits - before;
        }

        private void bruise(int slot) {
            depth[slot] = Math.max(1, depth[slot] - 1);
            bruises++;
        }

        private void split(int slot, int cold, Draws draws) {
            int piece = pieceUnder(slot);
            if (piece == NONE || pieceCount >= MOST_PIECES || splits >= MOST_SLOTS) {
                return;
            }
            int line = ground.slots[slot * SLOT_ROW + SLOT_LINE];
            int away = 0;
            if (ground.isAcrossGrain(slot) && cold < needOf(slot) + STRAYING) {
                int draw = draws.quarter();
                away = draw == 0 ? -1 : draw == 1 ? 1 : 0;
            }
            if (!isInside(piece, slot, line + away)) {
                away = 0;
            }
            divide(piece, lowEdge(piece, slot), line + away);
            splitSlots |= 1 << slot;
            note(slot, cold, away);
        }

        private void note(int slot, int cold, int away) {
            int row = splits * TRACE_ROW;
            trace[row] = slot;
            trace[row + 1] = night;
            trace[row + 2] = cold;
            trace[row + 3] = away;
            splits++;
            if (away != 0) {
                astray++;
            }
        }

        private void divide(int piece, int lowEdge, int line) {
            int row = piece * PIECE_ROW;
            int newRow = pieceCount * PIECE_ROW;
            System.arraycopy(pieces, row, pieces, newRow, PIECE_ROW);
            pieces[lowEdge + 1] = line;
            pieces[newRow + lowEdge - row] = line;
            pieceCount++;
        }

        private void deliver() {
            int sledges = ground.sledge;
            for (int order = 0; order < ground.orderCount && sledges > 0; order++) {
                if (isOpen(order)) {
                    sledges -= deliverTo(order, sledges);
                }
            }
        }

        private boolean isDone(int order) {
            return has[order] >= ground.orders[order * ORDER_ROW + ORDER_MANY];
        }

        private boolean isOpen(int order) {
            return !isDone(order) && night <= ground.orders[order * ORDER_ROW + ORDER_UNTIL];
        }

        private int deliverTo(int order, int sledges) {
            int taken = 0;
            for (int piece = 0; piece < pieceCount && taken < sledges && !isDone(order); piece++) {
                if (isLying(piece) && ground.isOfSize(order, pieceWide(piece), pieceHigh(piece))) {
                    pieces[piece * PIECE_ROW + PIECE_LIES] = 0;
                    has[order]++;
                    paid += ground.orders[order * ORDER_ROW + ORDER_PRICE];
                    taken++;
                }
            }
            return taken;
        }

        /** Whether anything at all can be paid in the night that comes. */
        private boolean mayBePaid() {
            if (night >= ground.thaw || ground.sledge == 0) {
                return false;
            }
            for (int order = 0; order < ground.orderCount; order++) {
                if (isOpen(order)) {
                    return true;
                }
            }
            return false;
        }

        private int ordersDone() {
            int done = 0;
            for (int order = 0; order < ground.orderCount; order++) {
                if (isDone(order)) {
                    done++;
                }
            }
            return done;
        }

        private int stone(boolean lying) {
            int stone = 0;
            for (int piece = 0; piece < pieceCount; piece++) {
                if (isLying(piece) == lying) {
                    stone += pieceWide(piece) * pieceHigh(piece);
                }
            }
            return stone;
        }

        private int unwanted() {
            int unwanted = 0;
            for (int piece = 0; piece < pieceCount; piece++) {
                if (isLying(piece) && ground.orderOfSize(pieceWide(piece), pieceHigh(piece)) == NONE) {
                    unwanted++;
                }
            }
            return unwanted;
        }
    }

    /** The PLAN and the THUMB's RECORDS. */
    private static final class Diary {
        private static final int MOST_RECORDS = 60;

        private final int[] planned = new int[NIGHTS];
        private int planNights = 0;
        /** How many records there are of each kind: which came when matters to no answer. */
        private final int[] tally = new int[4];

        private void begin() {
            planNights = 0;
            Arrays.fill(tally, 0);
        }

        private void copyFrom(Diary other) {
            System.arraycopy(other.planned, 0, planned, 0, planned.length);
            planNights = other.planNights;
            System.arraycopy(other.tally, 0, tally, 0, tally.length);
        }

        private int addPlan(int fill) {
            if (planNights >= NIGHTS) {
                return NONE;
            }
            planned[planNights] = fill;
            planNights++;
            return planNights;
        }

        private int planOf(int i) {
            return i < 0 || i >= planNights ? 0 : planned[i];
        }

        private int addRecord(boolean said, boolean came) {
            if (records() >= MOST_RECORDS) {
                return NONE;
            }
            tally[kindOf(said, came)]++;
            return records();
        }

        private int records() {
            return tally[0] + tally[1] + tally[2] + tally[3];
        }

        private int recordsOf(boolean said, boolean came) {
            return tally[kindOf(said, came)];
        }

        private static int kindOf(boolean said, boolean came) {
            return (said ? 2 : 0) + (came ? 1 : 0);
        }
    }

    /** Weighs by odds, exactly, what sets of slots are worth tonight and in the next night. */
    private static final class Foresight {
        private static final int NIGHTS_AHEAD = 2;
        private static final int FIRST_ALIVE = 3;
        /** What one night's odds are parts of: 8 for the cold, 4 for each of MOST_WEIGHED cracks. */
        private static final long NIGHT_PARTS = 8L << 2 * MOST_WEIGHED;
        private static final int MOST_WAYS = 1 << 2 * MOST_WEIGHED;

        private final Ground ground;
        /** One yard and one row of draws for each night ahead, as the later stands inside the earlier. */
        private final Yard[] after = new Yard[NIGHTS_AHEAD];
        private final Ways[] ways = new Ways[NIGHTS_AHEAD];
        private int bestSet = 0;

        private Foresight(Ground ground) {
            this.ground = ground;
            for (int i = 0; i < NIGHTS_AHEAD; i++) {
                after[i] = new Yard(ground);
                ways[i] = new Ways();
            }
        }

        /** The most paid in so many nights, in parts of NIGHT_PARTS to that power; bestSet is the first night's. */
        private long mostOf(Yard from, int nights) {
            if (nights < 1 || nights > NIGHTS_AHEAD || from.night >= NIGHTS) {
                return 0;
            }
            if (nights == 1 && !from.mayBePaid()) {
                return 0;
            }
            int alive = from.firstAlive(FIRST_ALIVE);
            int sets = 1 << Integer.bitCount(alive);
            int best = 0;
            long most = NONE;
            int set = 0;
            for (int i = 0; i < sets; i++) {
                long sum = Integer.bitCount(set) <= ground.water ? sumOf(from, set, nights) : NONE;
                if (sum > most) {
                    most = sum;
                    best = set;
                }
                // The next greater one among the alive bits' sets, so that of equals the least stays.
                set = set - alive & alive;
            }
            bestSet = best;
            return most;
        }

        /** What is paid with this set filled in the first of so many nights, in the same parts. */
        private long sumOf(Yard from, int fill, int nights) {
            if (nights < 1 || nights > NIGHTS_AHEAD || from.night >= NIGHTS) {
                return 0;
            }
            Yard yard = after[nights - 1];
            Ways way = ways[nights - 1];
            long sum = 0;
            int eighths = 0;
            for (int cold = 0; cold < COLDS; cold++) {
                eighths += ground.parts[from.night * COLDS + cold];
                // Colds that do the same are weighed together, as the nights behind them are dear.
                if (eighths == 0 || cold < COLDEST && from.actAlike(fill, cold, cold + 1)) {
                    continue;
                }
                way.begin();
                boolean more = true;
                for (int i = 0; i < MOST_WAYS && more; i++) {
                    yard.copyFrom(from);
                    yard.goThrough(fill, cold, way);
                    long paid = yard.paid - from.paid;
                    if (nights > 1) {
                        paid = paid * NIGHT_PARTS + mostOf(yard, nights - 1);
                    }
                    sum += eighths * way.weight() * paid;
                    more = way.advance();
                }
                eighths = 0;
            }
            return sum;
        }
    }

    /** Finds the highest TOWER; its rows are kept sorted by the longer side, then the shorter one. */
    private static final class Tower {
        private final int[] longer = new int[MOST_PIECES];
        private final int[] shorter = new int[MOST_PIECES];
        private final int[] height = new int[MOST_PIECES];
        private int size = 0;

        private int highest(Yard yard) {
            size = 0;
            for (int piece = 0; piece < yard.pieceCount; piece++) {
                if (yard.isLying(piece)) {
                    int wide = yard.pieceWide(piece);
                    int high = yard.pieceHigh(piece);
                    insert(Math.max(wide, high), Math.min(wide, high));
                }
            }
            int highest = 0;
            for (int i = 0; i < size; i++) {
                height[i] = 1 + highestUpon(i);
                highest = Math.max(highest, height[i]);
            }
            return highest;
        }

        private void insert(int side, int otherSide) {
            if (size >= MOST_PIECES) {
                return;
            }
            int at = size;
            while (at > 0 && (longer[at - 1] > side || longer[at - 1] == side && shorter[at - 1] > otherSide)) {
                longer[at] = longer[at - 1];
                shorter[at] = shorter[at - 1];
                at--;
            }
            longer[at] = side;
            shorter[at] = otherSide;
            size++;
        }

        /** The highest tower that can stand upon piece i: if any way fits, so does each longer side laid one way. */
        private int highestUpon(int i) {
            int highest = 0;
            for (int j = 0; j < i; j++) {
                if (shorter[j] <= shorter[i]) {
                    highest = Math.max(highest, height[j]);
                }
            }
            return highest;
        }
    }
}

/** Part 2 of the terms: the bounds of PIECES, ALIVE, NEED, a NIGHT that goes by, ORDERS and DRAWS. */
public final class NightBoundsTests {
    private static final int[] AWAY = {-1, 1, 0, 0};

    public static void main(String[] args) {
        piecesAtFirst();
        fromToAheadOf();
        strictlyInside();
        notSplitYet();
        lyingYet();
        ofTheBlock();
        need();
        thirtyNights();
        waterAtMost();
        aliveOnesAlone();
        coldOfNeedOrMore();
        bruised();
        depthOneAtLeast();
        byNumberIfAliveYet();
        lowerAndUpperPart();
        astrayBelowNeedAndTwo();
        astrayOnlyAcross();
        astrayOnlyInside();
        astrayOnlyInsideThePiece();
        drawnByOdds();
        withoutOddsWithoutDraw();
        coldToldWithoutDraw();
        orderOfDraws();
        aheadOfThaw();
        upToTheirNight();
        sledgesInAll();
        notAllTheirPieces();
        ordersAndPiecesByNumber();
        ofTheirSize();
        seedWraps();
        bitsOfTheSeed();
        Checks.end();
    }

    private static void piece(FrostMason x, int piece, int... due) {
        for (int what = 0; what < due.length; what++) {
            Checks.is("piece(" + piece + ", " + what + ")", due[what], x.piece(piece, what));
        }
    }

    private static void piecesAtFirst() {
        Checks.says("PIECES: at first each BLOCK is one, numbered so");
        FrostMason x = Checks.told("block 2 12 0;block 12 2 1;block 3 4 0;");
        Checks.is("pieces", 3, x.told(7));
        piece(x, 0, 0, 0, 2, 0, 12, 1);
        piece(x, 1, 1, 0, 12, 0, 2, 1);
        piece(x, 2, 2, 0, 3, 0, 4, 1);
        Checks.refuses("piece(3)", Checks.INDEX, () -> x.piece(3, 0));
    }

    private static void fromToAheadOf() {
        Checks.says("of X from a to ahead of b, Y from c to ahead of d");
        // Split at x 3: points at x 2 lie in the lower part, at x 3 in the upper one.
        FrostMason x = Checks.told("block 6 5 0;slot 0 0 3 0 9;slot 0 1 2 2 9;slot 0 1 2 3 9;slot 0 1 4 0 9;slot 0 1 4 5 9;");
        x.night(1, 9);
        Checks.is("x 2", 0, x.slot(1, 7));
        Checks.is("x 3", 1, x.slot(2, 7));
        Checks.is("x 0", 0, x.slot(3, 7));
        Checks.is("x 5", 1, x.slot(4, 7));
        FrostMason y = Checks.told("block 5 6 1;slot 0 1 3 0 9;slot 0 0 2 2 9;slot 0 0 2 3 9;slot 0 0 4 0 9;slot 0 0 4 5 9;");
        y.night(1, 9);
        Checks.is("y 2", 0, y.slot(1, 7));
        Checks.is("y 3", 1, y.slot(2, 7));
        Checks.is("y 0", 0, y.slot(3, 7));
        Checks.is("y 5", 1, y.slot(4, 7));
    }

    private static void strictlyInside() {
        Checks.says("ALIVE, if the PIECE has its line strictly inside");
        FrostMason x = Checks.told("block 6 5 0;slot 0 0 3 0 9;slot 0 0 3 4 9;slot 0 0 2 0 9;slot 0 0 4 0 9;slot 0 0 1 0 9;slot 0 0 5 0 9;");
        Checks.is("all", 63, x.undone());
        x.night(1, 9);
        Checks.is("line 3 is an edge now", 0, x.slot(1, 6));
        Checks.is("its point lies in the upper part", 1, x.slot(1, 7));
        Checks.is("the others are inside", 60, x.undone());
        x.night(4, 9);
        Checks.is("line 1 is inside of 0 to 2", 1, x.slot(4, 6));
        x.night(8, 9);
        Checks.is("line 5 is inside of 4 to 6", 1, x.slot(5, 6));
        Checks.is("undone", 16 + 32, x.undone());
        FrostMason y = Checks.told("block 5 6 1;slot 0 1 3 0 9;slot 0 1 3 4 9;slot 0 1 2 0 9;slot 0 1 4 0 9;");
        y.night(1, 9);
        Checks.is("line 3 is an edge now", 0, y.slot(1, 6));
        Checks.is("the others are inside", 12, y.undone());
        FrostMason narrow = Checks.told("block 2 2 0;slot 0 0 1 0 1;slot 0 1 1 0 1;");
        Checks.is("line 1 is inside of 0 to 2", 3, narrow.undone());
        FrostMason z = Checks.told("block 6 5 0;slot 0 0 3 0 9;slot 0 1 2 0 9;slot 0 1 2 5 9;slot 0 1 2 2 9;");
        z.night(3, 9);
        Checks.is("a line across the other part is inside it", 4, z.undone());
    }

    private static void notSplitYet() {
        Checks.says("ALIVE, if it has not split yet");
        // Gone astray, the line lies strictly inside one of the parts; yet the SLOT has split.
        for (int draw = 0; draw < 2; draw++) {
            FrostMason x = Checks.told("block 6 4 1;slot 0 0 2 1 3;slot 0 0 3 0 1;slot 0 0 2 0 1;");
            x.seed(Checks.seedFor(draw, 4));
            Checks.is("split", 1, x.night(1, 5));
            Checks.is("the piece its point lies in", draw == 0 ? 1 : 0, x.slot(0, 7));
            Checks.is("the first has split", 0, x.slot(0, 6));
            Checks.is("undone", draw == 0 ? 6 : 4, x.undone());
            Checks.refuses("filled again", Checks.ARGUMENT, () -> x.night(1, 9));
            Checks.is("left", -1, x.left(0, 1, 0));
        }
    }

    private static void lyingYet() {
        Checks.says("the PIECE in which its point lies, lying yet");
        FrostMason x = Checks.told("block 6 3 0;slot 0 0 2 1 3;slot 0 0 1 0 1;slot 0 0 4 0 1;order 2 3 1 9 1;");
        x.night(1, 9);
        Checks.is("the lower part is taken", 0, x.piece(0, 5));
        Checks.is("its slot", -1, x.slot(1, 7));
        Checks.is("is not alive", 0, x.slot(1, 6));
        Checks.is("the other is", 4, x.undone());
        Checks.refuses("filled", Checks.ARGUMENT, () -> x.night(2, 9));
        FrostMason whole = Checks.told("block 6 3 0;slot 0 0 2 1 3;order 6 3 1 9 1;");
        Checks.is("alive", 1, whole.undone());
        whole.night(0, 0);
        Checks.is("the whole block is taken", 0, whole.undone());
        Checks.is("the whole block is taken", -1, whole.slot(0, 7));
    }

    private static void ofTheBlock() {
        Checks.says("the PIECE in which its point lies, of the BLOCK");
        FrostMason x = Checks.told("block 6 3 0;block 6 3 0;slot 1 0 3 1 9;slot 0 0 3 1 9;slot 1 0 2 1 9;slot 0 0 4 1 9;");
        Checks.is("of block 1", 1, x.slot(0, 7));
        x.night(1, 9);
        Checks.is("block 0 is whole", 14, x.undone());
        Checks.is("the slot of block 0", 0, x.slot(1, 7));
        Checks.is("the slot of block 1", 1, x.slot(2, 7));
        x.night(2, 9);
        Checks.is("the upper part of block 0", 3, x.slot(3, 7));
        piece(x, 2, 1, 3, 6, 0, 3, 1);
        piece(x, 3, 0, 3, 6, 0, 3, 1);
    }

    private static void need() {
        Checks.says("NEED: 4, 2 more if A is not its BLOCK's GRAIN, less DEPTH by 3 (cut)");
        int[] due = {4, 4, 3, 3, 3, 2, 2, 2, 1};
        for (int depth = 1; depth <= 9; depth++) {
            for (int way = 0; way < 2; way++) {
                FrostMason along = Checks.told("block 4 4 " + way + ";slot 0 " + way + " 2 0 " + depth + ";");
                FrostMason across = Checks.told("block 4 4 " + (1 - way) + ";slot 0 " + way + " 2 0 " + depth + ";");
                Checks.is("along, depth " + depth, due[depth - 1], along.slot(0, 5));
                Checks.is("across, depth " + depth, due[depth - 1] + 2, across.slot(0, 5));
            }
        }
    }

    private static void thirtyNights() {
        Checks.says("A NIGHT (0 to 29, one behind the other)");
        FrostMason x = Checks.told("block 4 4 0;slot 0 0 2 0 9;odds 29 9 8;");
        for (int night = 0; night < 29; night++) {
            Checks.is("night", night, x.told(6));
            x.night(0, night % 9);
            Checks.is("cold", night % 9, x.cold(night));
        }
        Checks.is("the last one", 29, x.told(6));
        Checks.is("the last one", 1, x.night(1, -1));
        Checks.is("its number in the trace", 29, x.trace(0, 1));
        Checks.is("its cold", 9, x.cold(29));
        Checks.is("none any more", 30, x.told(6));
        String before = Checks.all(x);
        Checks.refuses("a 31st", Checks.STATE, () -> x.night(0, 0));
        Checks.refuses("a 31st, drawn", Checks.STATE, () -> x.night(0, -1));
        Checks.same("all that can be seen", before, Checks.all(x));
        Checks.is("cold(30)", -1, x.cold(30));
    }

    private static void waterAtMost() {
        Checks.says("some SLOTS that are ALIVE are FILLED (L at most)");
        String text = "block 9 9 0;slot 0 0 2 0 9;slot 0 0 4 0 9;slot 0 0 6 0 9;slot 0 0 8 0 9;";
        int[] sets = {0, 1, 3, 7, 15};
        for (int water = 0; water <= 4; water++) {
            FrostMason x = Checks.told(text + "water " + water + ";");
            if (water < 4) {
                int more = sets[water + 1];
                String before = Checks.all(x);
                Checks.refuses("one more than " + water, Checks.ARGUMENT, () -> x.night(more, 9));
                Checks.refuses("all four of " + water, Checks.ARGUMENT, () -> x.night(15, 0));
                Checks.same("all that can be seen", before, Checks.all(x));
            }
            Checks.is("as many as " + water, water, x.night(sets[water], 9));
        }
        StringBuilder twelve = new StringBuilder("block 12 2 0;block 2 2 0;slot 1 0 1 0 9;");
        for (int line = 1; line < 12; line++) {
            twelve.append("slot 0 0 ").append(line).append(" 0 9;");
        }
        FrostMason x = Checks.told(twelve.toString());
        Checks.is("all twelve without water told", 12, x.night(4095, 9));
        Checks.is("pieces", 14, x.told(7));
        FrostMason eleven = Checks.told(twelve + "water 11;");
        Checks.refuses("twelve of eleven", Checks.ARGUMENT, () -> eleven.night(4095, 9));
        Checks.is("eleven of eleven", 11, eleven.night(4094, 9));
    }

    private static void aliveOnesAlone() {
        Checks.says("SLOTS that are not ALIVE: IllegalArgumentException");
        FrostMason x = Checks.told("block 6 5 0;slot 0 0 3 0 9;slot 0 0 3 4 9;slot 0 0 2 0 9;");
        x.night(1, 9);
        x.seed(5);
        String before = Checks.all(x);
        Checks.refuses("split", Checks.ARGUMENT, () -> x.night(1, 0));
        Checks.refuses("its line is an edge", Checks.ARGUMENT, () -> x.night(2, 0));
        Checks.refuses("one of two", Checks.ARGUMENT, () -> x.night(5, 0));
        Checks.refuses("no such slot", Checks.ARGUMENT, () -> x.night(8, 0));
        Checks.refuses("no such slot", Checks.ARGUMENT, () -> x.night(1 << 12, 0));
        Checks.refuses("no such slot", Checks.ARGUMENT, () -> x.night(4 | 1 << 31, 0));
        Checks.refuses("all bits", Checks.ARGUMENT, () -> x.night(-1, 0));
        Checks.same("all that can be seen", before, Checks.all(x));
        Checks.is("the alive one", 1, x.night(4, 9));
    }

    private static void coldOfNeedOrMore() {
        Checks.says("with COLD of NEED or more it SPLITS; else, if COLD is above 0, it is BRUISED");
        for (int depth = 1; depth <= 9; depth++) {
            for (int grain = 0; grain < 2; grain++) {
                for (int cold = 0; cold <= 9; cold++) {
                    FrostMason x = Checks.told("block 4 4 " + grain + ";slot 0 0 2 0 " + depth + ";");
                    int need = 4 + 2 * grain - depth / 3;
                    String of = " of depth " + depth + ", grain " + grain + ", cold " + cold;
                    Checks.is("split" + of, cold >= need ? 1 : 0, x.night(1, cold));
                    Checks.is("splits" + of, cold >= need ? 1 : 0, x.sums(4));
                    Checks.is("bruises" + of, cold > 0 && cold < need ? 1 : 0, x.sums(6));
                    Checks.is("depth" + of, cold > 0 && cold < need ? Math.max(1, depth - 1) : depth, x.slot(0, 4));
                    Checks.is("alive" + of, cold >= need ? 0 : 1, x.slot(0, 6));
                }
            }
        }
    }

    private static void bruised() {
        Checks.says("FILLED ones are BRUISED, no others");
        FrostMason x = Checks.told("block 6 6 0;slot 0 0 2 0 3;slot 0 0 4 0 3;");
        x.night(1, 2);
        Checks.is("filled", 2, x.slot(0, 4));
        Checks.is("not filled", 3, x.slot(1, 4));
        Checks.is("need, one less", 4, x.slot(0, 5));
        x.night(3, 3);
        Checks.is("the bruised one needs more now", 1, x.slot(0, 4));
        Checks.is("the other splits", 0, x.slot(1, 6));
        Checks.is("bruises", 2, x.sums(6));
    }

    private static void depthOneAtLeast() {
        Checks.says("DEPTH is 1 less, 1 at least");
        FrostMason x = Checks.told("block 6 6 1;slot 0 0 2 0 3;");
        int[] due = {2, 1, 1, 1};
        for (int i = 0; i < due.length; i++) {
            Checks.is("split", 0, x.night(1, 1));
            Checks.is("depth", due[i], x.slot(0, 4));
            Checks.is("bruises", i + 1, x.sums(6));
        }
        Checks.is("need", 6, x.slot(0, 5));
        x.night(1, 0);
        Checks.is("cold 0 is no bruise", 4, x.sums(6));
    }

    private static void byNumberIfAliveYet() {
        Checks.says("FILLED ones by number, if ALIVE yet");
        FrostMason x = Checks.told("block 6 6 0;slot 0 0 3 1 9;slot 0 0 3 4 1;");
        Checks.is("the second's line is an edge by then", 1, x.night(3, 9));
        FrostMason y = Checks.told("block 6 6 0;slot 0 0 3 1 9;slot 0 0 3 4 1;");
        Checks.is("nor is it bruised", 1, y.night(3, 1));
        Checks.is("bruises", 0, y.sums(6));
        Checks.is("depth", 1, y.slot(1, 4));
        // Across the grain the second one makes no DRAW then: the seed goes on by one alone.
        int seed = Checks.seedFor(2, 4);
        FrostMason z = Checks.told("block 6 6 1;slot 0 0 3 1 3;slot 0 0 3 4 3;");
        z.seed(seed);
        Checks.is("one splits", 1, z.night(3, 5));
        Checks.is("one draw", Checks.behind(seed), z.seed(0));
        // A crack that goes astray to the line of the next one leaves it dead, elsewhere it lives.
        FrostMason w = Checks.told("block 6 6 1;slot 0 0 3 1 3;slot 0 0 4 4 9;");
        w.seed(Checks.seedFor(1, 4));
        Checks.is("gone to 4", 1, w.night(3, 5));
        Checks.is("astray", 1, w.trace(0, 3));
        FrostMason v = Checks.told("block 6 6 1;slot 0 0 3 1 3;slot 0 0 4 4 9;");
        v.seed(Checks.seedFor(0, 4));
        Checks.is("gone to 2", 2, v.night(3, 5));
        Checks.is("by number", 0, v.trace(0, 0));
        Checks.is("by number", 1, v.trace(1, 0));
    }

    private static void lowerAndUpperPart() {
        Checks.says("SPLIT, a PIECE becomes the lower part, the upper part a new one behind all");
        FrostMason x = Checks.told("block 6 5 0;block 3 3 0;slot 0 0 1 0 9;slot 0 0 5 0 9;slot 0 1 2 3 9;slot 0 1 4 3 9;");
        x.night(1, 9);
        piece(x, 0, 0, 0, 1, 0, 5, 1);
        piece(x, 2, 0, 1, 6, 0, 5, 1);
        x.night(2, 9);
        piece(x, 2, 0, 1, 5, 0, 5, 1);
        piece(x, 3, 0, 5, 6, 0, 5, 1);
        x.night(12, 9);
        piece(x, 2, 0, 1, 5, 0, 2, 1);
        piece(x, 4, 0, 1, 5, 2, 4, 1);
        piece(x, 5, 0, 1, 5, 4, 5, 1);
        piece(x, 1, 1, 0, 3, 0, 3, 1);
        Checks.is("pieces", 6, x.told(7));
        Checks.is("stone adds up", 39, x.sums(1));
    }

    private static void astrayBelowNeedAndTwo() {
        Checks.says("across the GRAIN, with COLD below NEED and 2, the crack goes ASTRAY by a DRAW below 4");
        for (int way = 0; way < 2; way++) {
            for (int draw = 0; draw < 4; draw++) {
                for (int cold = 5; cold <= 9; cold++) {
                    FrostMason x = Checks.told("block 5 5 " + (1 - way) + ";slot 0 " + way + " 2 1 3;");
                    int seed = Checks.seedFor(draw, 4);
                    x.seed(seed);
                    Checks.is("split", 1, x.night(1, cold));
                    int due = cold < 7 ? AWAY[draw] : 0;
                    String by = " by draw " + draw + ", cold " + cold;
                    Checks.is("astray" + by, due, x.trace(0, 3));
                    Checks.is("the lower part's end" + by, 2 + due, x.piece(0, way == 0 ? 2 : 4));
                    Checks.is("the upper part's begin" + by, 2 + due, x.piece(1, way == 0 ? 1 : 3));
                    Checks.is("gone astray" + by, due == 0 ? 0 : 1, x.sums(5));
                    Checks.is("the seed" + by, cold < 7 ? Checks.behind(seed) : seed, x.seed(0));
                }
            }
        }
    }

    private static void astrayOnlyAcross() {
        Checks.says("ASTRAY only across the GRAIN (A is not it)");
        for (int way = 0; way < 2; way++) {
            for (int draw = 0; draw < 4; draw++) {
                FrostMason x = Checks.told("block 5 5 " + way + ";slot 0 " + way + " 2 1 3;");
                int seed = Checks.seedFor(draw, 4);
                x.seed(seed);
                Checks.is("split at its need", 1, x.night(1, 3));
                Checks.is("not astray", 0, x.trace(0, 3));
                Checks.is("no draw", seed, x.seed(0));
            }
        }
    }

    private static void astrayOnlyInside() {
        Checks.says("each only if that is strictly inside, else at C");
        int[] lines = {1, 2, 3, 4};
        for (int line : lines) {
            for (int draw = 0; draw < 4; draw++) {
                for (int way = 0; way < 2; way++) {
                    FrostMason x = Checks.told("block 5 5 " + (1 - way) + ";slot 0 " + way + " " + line + " 1 3;");
                    int seed = Checks.seedFor(draw, 4);
                    x.seed(seed);
                    x.night(1, 5);
                    int gone = line + AWAY[draw];
                    int due = gone > 0 && gone < 5 ? AWAY[draw] : 0;
                    String by = " of line " + line + " by draw " + draw;
                    Checks.is("astray" + by, due, x.trace(0, 3));
                    Checks.is("gone astray (not at C)" + by, Math.abs(due), x.sums(5));
                    Checks.is("the lower part's end" + by, line + due, x.piece(0, way == 0 ? 2 : 4));
                    Checks.is("drawn all the same" + by, Checks.behind(seed), x.seed(0));
                }
            }
        }
        for (int draw = 0; draw < 2; draw++) {
            FrostMason x = Checks.told("block 2 2 1;slot 0 0 1 0 1;");
            x.seed(Checks.seedFor(draw, 4));
            Checks.is("a block of 2 can only split at 1", 1, x.night(1, 6));
            Checks.is("its line", 1, x.piece(0, 2));
        }
    }

    private static void astrayOnlyInsideThePiece() {
        Checks.says("strictly inside the PIECE, not the BLOCK");
        for (int draw = 0; draw < 4; draw++) {
            FrostMason x = Checks.told("block 6 6 1;slot 0 0 3 1 3;slot 0 0 4 1 3;slot 0 0 2 1 3;");
            x.night(1, 9);
            x.seed(Checks.seedFor(draw, 4));
            x.night(2, 5);
            Checks.is("line 4 can't go to edge 3, by draw " + draw, Math.max(0, AWAY[draw]), x.trace(1, 3));
            x.seed(Checks.seedFor(draw, 4));
            x.night(4, 5);
            Checks.is("line 2 can't go to edge 3, by draw " + draw, Math.min(0, AWAY[draw]), x.trace(2, 3));
            FrostMason y = Checks.told("block 6 6 0;slot 0 1 3 1 3;slot 0 1 4 1 3;slot 0 1 2 1 3;");
            y.night(1, 9);
            y.seed(Checks.seedFor(draw, 4));
            y.night(2, 6);
            Checks.is("line 4 can't go to edge 3, by draw " + draw, Math.max(0, AWAY[draw]), y.trace(1, 3));
            y.seed(Checks.seedFor(draw, 4));
            y.night(4, 6);
            Checks.is("line 2 can't go to edge 3, by draw " + draw, Math.min(0, AWAY[draw]), y.trace(2, 3));
        }
    }

    private static void drawnByOdds() {
        Checks.says("a DRAW below 8 falls into those of the NIGHT in the order told (P each), else COLD is 0");
        String[] texts = {"odds 0 5 3;odds 0 2 4;", "odds 0 2 7;odds 0 9 1;", "odds 0 1 1;", "odds 0 9 8;", "odds 1 9 8;odds 0 3 1;odds 2 7 8;", "odds 0 4 2;odds 0 4 2;odds 0 1 3;"};
        int[][] due = {{5, 5, 5, 2, 2, 2, 2, 0}, {2, 2, 2, 2, 2, 2, 2, 9}, {1, 0, 0, 0, 0, 0, 0, 0}, {9, 9, 9, 9, 9, 9, 9, 9}, {3, 0, 0, 0, 0, 0, 0, 0}, {4, 4, 4, 4, 1, 1, 1, 0}};
        for (int i = 0; i < texts.length; i++) {
            for (int draw = 0; draw < 8; draw++) {
                FrostMason x = Checks.told(texts[i]);
                int seed = Checks.seedFor(draw, 8);
                x.seed(seed);
                x.night(0, -1);
                Checks.is("cold of '" + texts[i] + "' by draw " + draw, due[i][draw], x.cold(0));
                Checks.is("the seed", Checks.behind(seed), x.seed(0));
            }
        }
    }

    private static void withoutOddsWithoutDraw() {
        Checks.says("without odds 0, without a DRAW");
        FrostMason x = Checks.told("odds 1 9 8;odds 29 9 8;");
        x.seed(77);
        x.night(0, -1);
        Checks.is("cold", 0, x.cold(0));
        Checks.is("the seed stays", 77, x.seed(77));
        x.night(0, -1);
        Checks.is("cold", 9, x.cold(1));
        Checks.is("the seed goes on", Checks.behind(77), x.seed(77));
        for (int night = 2; night < 29; night++) {
            x.night(0, -1);
            Checks.is("cold", 0, x.cold(night));
        }
        Checks.is("the seed stays", 77, x.seed(77));
        x.night(0, -1);
        Checks.is("cold", 9, x.cold(29));
        Checks.is("the seed goes on", Checks.behind(77), x.seed(77));
    }

    private static void coldToldWithoutDraw() {
        Checks.says("COLD is told, or DRAWN");
        FrostMason x = Checks.told("odds 0 5 8;odds 1 5 8;");
        x.seed(77);
        x.night(0, 0);
        x.night(0, 9);
        Checks.is("told 0", 0, x.cold(0));
        Checks.is("told 9", 9, x.cold(1));
        Checks.is("without a draw", 77, x.seed(0));
        String before = Checks.all(x);
        Checks.refusesOutside("cold", -1, 9, Checks.ARGUMENT, cold -> x.night(0, cold));
        Checks.same("all that can be seen", before, Checks.all(x));
    }

    private static void orderOfDraws() {
        Checks.says("COLD is DRAWN first, then FILLED ones by number");
        FrostMason x = Checks.told("block 5 5 1;block 5 5 1;slot 0 0 2 1 3;slot 1 0 3 1 3;odds 0 5 8;");
        x.seed(9);
        Checks.is("both split", 2, x.night(3, -1));
        int first = Checks.behind(Checks.behind(9));
        int second = Checks.behind(first);
        Checks.is("the second draw is of the first slot", AWAY[first >>> 16 & 3], x.trace(0, 3));
        Checks.is("the third draw is of the second slot", AWAY[second >>> 16 & 3], x.trace(1, 3));
        Checks.is("three draws", second, x.seed(0));
    }

    /** A quarry whose only pay comes in the NIGHT in which its slot is split: 20. */
    private static int paidInNight(String rest, int night) {
        FrostMason x = Checks.told("block 4 3 0;slot 0 0 2 1 3;" + rest);
        Checks.pass(x, night);
        x.night(1, 9);
        return x.sums(3);
    }

    private static void aheadOfThaw() {
        Checks.says("if the NIGHT is ahead of thaw");
        String order = "order 2 3 2 29 10;";
        Checks.is("thaw 0, night 0", 0, paidInNight(order + "thaw 0;", 0));
        Checks.is("thaw 1, night 0", 20, paidInNight(order + "thaw 1;", 0));
        Checks.is("thaw 1, night 1", 0, paidInNight(order + "thaw 1;", 1));
        Checks.is("thaw 7, night 6", 20, paidInNight(order + "thaw 7;", 6));
        Checks.is("thaw 7, night 7", 0, paidInNight(order + "thaw 7;", 7));
        Checks.is("thaw 29, night 28", 20, paidInNight(order + "thaw 29;", 28));
        Checks.is("thaw 29, night 29", 0, paidInNight(order + "thaw 29;", 29));
        Checks.is("thaw 30, night 29", 20, paidInNight(order + "thaw 30;", 29));
        Checks.is("without thaw, night 29", 20, paidInNight(order, 29));
        FrostMason x = Checks.told("block 4 3 0;slot 0 0 2 1 3;" + order + "thaw 0;");
        Checks.is("slots split behind thaw too", 1, x.night(1, 9));
        Checks.is("nothing is taken", 12, x.sums(1));
        Checks.is("the order has none", 0, x.order(0, 5));
    }

    private static void upToTheirNight() {
        Checks.says("ORDERS, up to their T");
        Checks.is("T 0, night 0", 20, paidInNight("order 2 3 2 0 10;", 0));
        Checks.is("T 0, night 1", 0, paidInNight("order 2 3 2 0 10;", 1));
        Checks.is("T 5, night 5", 20, paidInNight("order 2 3 2 5 10;", 5));
        Checks.is("T 5, night 6", 0, paidInNight("order 2 3 2 5 10;", 6));
        Checks.is("T 28, night 29", 0, paidInNight("order 2 3 2 28 10;", 29));
        Checks.is("T 29, night 29", 20, paidInNight("order 2 3 2 29 10;", 29));
        Checks.is("the next order takes them", 14, paidInNight("order 2 3 2 5 10;order 2 3 2 6 7;", 6));
    }

    private static void sledgesInAll() {
        Checks.says("S in all in one NIGHT");
        String five = "block 2 2 0;block 2 2 0;block 2 2 0;block 2 2 0;block 2 2 0;slot 0 0 1 0 9;slot 1 0 1 0 9;slot 2 0 1 0 9;slot 3 0 1 0 9;slot 4 0 1 0 9;order 1 2 9 29 3;order 2 1 9 29 2;";
        // Ten pieces of 1 by 2 come in the first night: the first order wants nine of them.
        for (int sledge = 0; sledge <= 9; sledge++) {
            FrostMason x = Checks.told(five + "sledge " + sledge + ";");
            Checks.is("splits", 5, x.night(31, 9));
            Checks.is("the first night, sledge " + sledge, sledge, x.order(0, 5));
            Checks.is("nothing for the second order yet, sledge " + sledge, 0, x.order(1, 5));
            Checks.is("taken, sledge " + sledge, 2 * sledge, x.sums(2));
            x.night(0, 0);
            Checks.is("the second night, sledge " + sledge, Math.min(9, 2 * sledge), x.order(0, 5));
            Checks.is("the second order, sledge " + sledge, 2 * sledge > 9 ? 1 : 0, x.order(1, 5));
        }
        FrostMason x = Checks.told(five);
        x.night(31, 9);
        Checks.is("nine without", 9, x.order(0, 5));
        Checks.is("nine without", 0, x.order(1, 5));
        Checks.is("paid", 27, x.sums(3));
        FrostMason two = Checks.told("block 2 3 0;block 2 3 0;block 4 4 0;block 4 4 0;order 2 3 2 9 1;order 4 4 2 9 1;sledge 3;");
        two.night(0, 0);
        Checks.is("of several orders together", 2, two.order(0, 5));
        Checks.is("of several orders together", 1, two.order(1, 5));
    }

    private static void notAllTheirPieces() {
        Checks.says("ORDERS, that have not all their N yet");
        FrostMason x = Checks.told("block 2 3 0;block 2 3 0;block 2 3 0;block 2 3 0;order 2 3 1 9 5;order 3 2 2 9 1;");
        x.night(0, 0);
        Checks.is("one of one", 1, x.order(0, 5));
        Checks.is("two of two", 2, x.order(1, 5));
        Checks.is("paid", 7, x.sums(3));
        Checks.is("the fourth lies", 1, x.piece(3, 5));
        x.night(0, 0);
        Checks.is("no more", 7, x.sums(3));
        Checks.is("the fourth lies", 1, x.piece(3, 5));
        FrostMason nine = Checks.told("block 2 2 0;block 2 2 0;block 2 2 0;block 2 2 0;block 2 2 0;slot 0 0 1 0 9;slot 1 0 1 0 9;slot 2 0 1 0 9;slot 3 0 1 0 9;slot 4 0 1 0 9;order 1 2 9 29 3;");
        nine.night(31, 9);
        nine.night(0, 0);
        Checks.is("nine of nine, and one lies yet", 2, nine.sums(1));
        Checks.is("nine", 9, nine.order(0, 5));
    }

    private static void ordersAndPiecesByNumber() {
        Checks.says("ORDERS by number get lying PIECES by number");
        FrostMason x = Checks.told("block 5 5 0;block 2 3 0;block 3 2 0;block 2 3 0;order 2 3 1 9 5;order 2 3 1 9 7;sledge 1;");
        int[][] lies = {{1, 0, 1, 1}, {1, 0, 0, 1}, {1, 0, 0, 1}};
        int[] paid = {5, 12, 12};
        for (int night = 0; night < 3; night++) {
            x.night(0, 0);
            Checks.is("paid", paid[night], x.sums(3));
            for (int piece = 0; piece < 4; piece++) {
                Checks.is("piece " + piece + " behind night " + night, lies[night][piece], x.piece(piece, 5));
            }
        }
    }

    private static void ofTheirSize() {
        Checks.says("of their size (W by H, or H by W)");
        int[][] sizes = {{4, 7}, {7, 4}, {4, 6}, {4, 8}, {3, 7}, {5, 7}, {4, 4}, {7, 7}};
        for (int i = 0; i < sizes.length; i++) {
            FrostMason x = Checks.told("block " + sizes[i][0] + " " + sizes[i][1] + " 0;order 4 7 1 9 5;");
            Checks.is("of no order's size, " + i, i < 2 ? 0 : 1, x.sums(7));
            x.night(0, 0);
            Checks.is("paid for size " + i, i < 2 ? 5 : 0, x.sums(3));
        }
    }

    private static void seedWraps() {
        Checks.says("the SEED (32 bits; 0 at first) becomes itself times 1,103,515,245, and 12,345 (it wraps)");
        FrostMason first = Checks.told("odds 0 1 8;");
        Checks.is("0 at first", 0, first.seed(0));
        first.night(0, -1);
        Checks.is("12,345 behind 0", 12345, first.seed(0));
        int[] seeds = {1, 2, 3, -1, -2, 12345, 65535, 65536, 1 << 30, Integer.MAX_VALUE, Integer.MIN_VALUE, Integer.MIN_VALUE + 1, 0x9e3779b9};
        for (int seed : seeds) {
            FrostMason x = Checks.told("odds 0 1 8;odds 1 1 8;odds 2 1 8;");
            x.seed(seed);
            int due = seed;
            for (int night = 0; night < 3; night++) {
                x.night(0, -1);
                due = Checks.behind(due);
                Checks.is("behind " + seed, due, x.seed(due));
            }
        }
    }

    private static void bitsOfTheSeed() {
        Checks.says("its bits 16 to 18, or 16 and 17");
        String text = "block 5 5 1;slot 0 0 2 1 3;odds 1 1 1;odds 1 2 1;odds 1 3 1;odds 1 4 1;odds 1 5 1;odds 1 6 1;odds 1 7 1;odds 1 8 1;";
        int[] seeds = {0, 1, -1, 5, 99, 1 << 20, Integer.MAX_VALUE, Integer.MIN_VALUE, 0x7fff0000, 0x80010000};
        for (int seed : seeds) {
            FrostMason x = Checks.told(text);
            x.seed(seed);
            x.night(1, 5);
            int two = Checks.behind(seed);
            Checks.is("two bits behind " + seed, AWAY[two >>> 16 & 3], x.trace(0, 3));
            x.night(0, -1);
            int three = Checks.behind(two);
            Checks.is("three bits behind " + two, (three >>> 16 & 7) + 1, x.cold(1));
        }
        boolean[] seen = new boolean[8];
        for (int seed = 0; seed < 200; seed++) {
            FrostMason x = Checks.told(text);
            x.night(0, 0);
            x.seed(seed);
            x.night(0, -1);
            int draw = Checks.behind(seed) >>> 16 & 7;
            seen[draw] = true;
            Checks.is("three bits behind " + seed, draw + 1, x.cold(1));
        }
        for (int draw = 0; draw < 8; draw++) {
            Checks.is("draw " + draw + " came", 1, seen[draw] ? 1 : 0);
        }
    }
}

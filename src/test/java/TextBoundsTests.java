/** Part 1 of the terms: the bounds of a QUARRY's text, of its numbers, and the FAULTS with their places. */
public final class TextBoundsTests {
    private static final String[] WORDS = {"block", "slot", "order", "odds", "water", "sledge", "thaw"};
    private static final String BLOCK = "block 2 2 0;";
    private static final String SLOT = "slot 0 0 1 0 1;";
    private static final String ORDER = "order 1 1 1 1 1;";
    private static final String THAW = "thaw 3;";

    public static void main(String[] args) {
        sixHundredBytes();
        emptyText();
        sixtyClauses();
        sixBlocks();
        twelveSlots();
        sixOrders();
        twentyFourOdds();
        allFullAtOnce();
        blockNumbers();
        slotNumbers();
        blockToldAhead();
        orderNumbers();
        oddsNumbers();
        eightTogether();
        severalOfOneNightAndCold();
        waterSledgeThaw();
        withoutWaterSledgeThaw();
        theLastCounts();
        digits();
        words();
        blanks();
        whatCantStand();
        endsTooEarly();
        firstFromTheLeft();
        atItsFirstByte();
        ofOnePlaceTheLeast();
        Checks.end();
    }

    private static void sixHundredBytes() {
        Checks.says("a text of up to 600 bytes");
        FrostMason x = Checks.told(Checks.times(593, " ") + "thaw 7;");
        Checks.is("a clause in the last of 600 bytes", 7, x.told(5));
        Checks.is("its fault", -1, x.fault());
        Checks.faulty(Checks.times(594, " ") + "thaw 7", 1, 600);
        Checks.faulty(Checks.times(599, " ") + "x", 1, 599);
        Checks.faulty(Checks.times(592, " ") + "thaw 31;", 2, 597);
        Checks.faultless(Checks.times(600, " "));
        Checks.faultless(THAW + Checks.times(593, " "));
        Checks.faulty(Checks.times(600, "t"), 1, 0);
        Checks.is("a number to the last byte", 7, Checks.told("thaw " + Checks.times(593, "0") + "7;").told(5));
        Checks.faulty("thaw " + Checks.times(595, "0"), 1, 600);
    }

    private static void emptyText() {
        Checks.says("{ CLAUSE \";\" }: also none");
        FrostMason x = new FrostMason();
        Checks.is("quarry(0) with an empty tape", 0, x.quarry(0));
        Checks.is("its fault", -1, x.fault());
        Checks.put(x, "x");
        Checks.is("quarry(0) with a tape", 0, x.quarry(0));
        Checks.is("its fault", -1, x.fault());
        Checks.is("blocks", 0, x.told(0));
    }

    private static void sixtyClauses() {
        Checks.says("at most 60 CLAUSES; FAULT 3: a CLAUSE too many, at its word");
        String most = Checks.times(59, THAW) + "thaw 8;";
        FrostMason x = Checks.told(most);
        Checks.is("the 60th is read", 8, x.told(5));
        Checks.faultless(most + "   ");
        Checks.faulty(most + THAW, 3, most.length());
        Checks.faulty(most + "   " + THAW, 3, most.length() + 3);
        for (String word : WORDS) {
            Checks.faulty(most + word, 3, most.length());
            Checks.faulty(most + " " + word + " 1;", 3, most.length() + 1);
        }
        Checks.faulty(most + "thaw 31;", 3, most.length());
        Checks.faulty(Checks.times(60, THAW) + Checks.times(10, THAW), 3, 60 * 7);
        String mixed = BLOCK + Checks.times(12, SLOT) + Checks.times(47, "thaw3;");
        Checks.is("60 of several kinds", 1, Checks.tell(new FrostMason(), mixed));
        Checks.faulty(mixed + "odds 0 1 1;", 3, mixed.length());
    }

    private static void sixBlocks() {
        Checks.says("BLOCKS, numbered from 0 on, 6 at most; FAULT 3: a BLOCK too many, at its word");
        String five = Checks.times(5, BLOCK);
        Checks.is("one block", 1, Checks.tell(new FrostMason(), BLOCK));
        Checks.is("five blocks", 5, Checks.tell(new FrostMason(), five));
        FrostMason x = new FrostMason();
        Checks.is("six blocks", 6, Checks.tell(x, five + "block 5 9 0;"));
        Checks.is("told", 6, x.told(0));
        Checks.is("the sixth is number 5", 5, x.piece(5, 0));
        Checks.is("its width", 5, x.piece(5, 2));
        Checks.faulty(five + BLOCK + BLOCK, 3, 72);
        Checks.faulty(five + BLOCK + " " + BLOCK, 3, 73);
        Checks.faulty(five + BLOCK + THAW + "block", 3, 79);
        Checks.faulty(five + BLOCK + "block 1 1 2;", 3, 72);
        Checks.faultless(five + BLOCK + SLOT);
    }

    private static void twelveSlots() {
        Checks.says("SLOTS likewise, 12; FAULT 3: a SLOT too many, at its word");
        String eleven = BLOCK + Checks.times(11, SLOT);
        FrostMason x = Checks.told(eleven + "slot 0 1 1 1 9;");
        Checks.is("told", 12, x.told(1));
        Checks.is("the twelfth is number 11", 9, x.slot(11, 4));
        Checks.is("eleven", 11, Checks.told(eleven).told(1));
        Checks.faulty(eleven + SLOT + SLOT, 3, 12 + 12 * 15);
        Checks.faulty(eleven + SLOT + "  " + SLOT, 3, 12 + 12 * 15 + 2);
        Checks.faulty(eleven + SLOT + "slot 7", 3, 12 + 12 * 15);
        Checks.faultless(eleven + SLOT + BLOCK);
    }

    private static void sixOrders() {
        Checks.says("ORDERS likewise, 6; FAULT 3: an ORDER too many, at its word");
        String five = Checks.times(5, ORDER);
        FrostMason x = Checks.told(five + "order 1 1 1 1 99;");
        Checks.is("told", 6, x.told(2));
        Checks.is("the sixth is number 5", 99, x.order(5, 4));
        Checks.is("five", 5, Checks.told(five).told(2));
        Checks.faulty(five + ORDER + ORDER, 3, 6 * 16);
        Checks.faulty(five + ORDER + "order 0", 3, 6 * 16);
        Checks.faultless(five + ORDER + BLOCK);
    }

    private static void twentyFourOdds() {
        Checks.says("FAULT 3: a 25th odds, at its word");
        StringBuilder b = new StringBuilder();
        for (int i = 0; i < 23; i++) {
            b.append("odds ").append(i).append(" 1 1;");
        }
        String most = b + "odds 23 7 2;";
        FrostMason x = Checks.told(most);
        Checks.is("the 24th counts", 2, x.odds(23, 7));
        Checks.is("the first counts", 1, x.odds(0, 1));
        Checks.faulty(most + "odds 24 1 1;", 3, most.length());
        Checks.faulty(most + " odds 30 1 1;", 3, most.length() + 1);
        Checks.faulty(most + "odds", 3, most.length());
        Checks.faultless(most + THAW);
        String ofThreeNights = Checks.times(8, "odds 0 1 1;") + Checks.times(8, "odds 1 2 1;") + Checks.times(8, "odds 2 3 1;");
        Checks.faultless(ofThreeNights);
        Checks.faulty(ofThreeNights + "odds 2 3 1;", 3, 24 * 11);
    }

    private static void allFullAtOnce() {
        Checks.says("6, 12, 6 and 24 of all kinds in one text");
        StringBuilder odds = new StringBuilder();
        for (int i = 0; i < 24; i++) {
            odds.append("odds").append(i % 3).append(" 9 1;");
        }
        String full = Checks.times(6, "block2 2 0;") + Checks.times(12, "slot5 0 1 0 1;") + Checks.times(6, "order1 1 1 1 1;") + odds;
        FrostMason x = new FrostMason();
        Checks.is("blocks", 6, Checks.tell(x, full));
        Checks.is("slots", 12, x.told(1));
        Checks.is("orders", 6, x.told(2));
        Checks.is("odds", 8, x.odds(2, 9));
        Checks.faultless(full + Checks.times(6, "thaw3;"));
    }

    /** The least and the most number are told, the ones next to them are FAULT 2 at their place. */
    private static void range(String ahead, int least, int most, String behind, Checks.Asked asked) {
        for (int number = least; number <= most; number++) {
            Checks.is("'" + ahead + number + behind + "'", number, asked.of(Checks.told(ahead + number + behind)));
        }
        Checks.is("'" + ahead + "00" + most + behind + "'", most, asked.of(Checks.told(ahead + "00" + most + behind)));
        if (least > 0) {
            Checks.faulty(ahead + (least - 1) + behind, 2, ahead.length());
            Checks.faulty(ahead + "0" + behind, 2, ahead.length());
        }
        Checks.faulty(ahead + (most + 1) + behind, 2, ahead.length());
        Checks.faulty(ahead + "   " + (most + 1) + behind, 2, ahead.length() + 3);
        Checks.faulty(ahead + (most + 256) + behind, 2, ahead.length());
        Checks.faulty(ahead + (most + 65536) + behind, 2, ahead.length());
        Checks.faulty(ahead + (most + 4294967296L) + behind, 2, ahead.length());
        Checks.faulty(ahead + "1844674407370955161" + (6 + least) + behind, 2, ahead.length());
        Checks.faulty(ahead + "-" + most + behind, 1, ahead.length());
        Checks.faulty(ahead + "+" + most + behind, 1, ahead.length());
    }

    private static void blockNumbers() {
        Checks.says("W across, H down, 2 to 12 each; GRAIN G, 0 or 1");
        range("block ", 2, 12, " 5 0;", x -> x.piece(0, 2));
        range("block 5 ", 2, 12, " 1;", x -> x.piece(0, 4));
        range("block 5 5 ", 0, 1, ";slot 0 0 1 0 1;", x -> x.slot(0, 5) == 6 ? 1 : x.slot(0, 5) == 4 ? 0 : 9);
    }

    private static void slotNumbers() {
        Checks.says("in BLOCK B; A 0: C 1 to W less 1, E 0 to H less 1; A 1: C 1 to H less 1, E 0 to W less 1; DEPTH 1 to 9");
        range("block 7 5 0;slot ", 0, 0, " 0 1 0 1;", x -> x.slot(0, 0));
        range("block 7 5 0;block 4 9 0;block 2 2 0;slot ", 0, 2, " 0 1 0 1;", x -> x.slot(0, 0));
        range("block 7 5 0;slot 0 ", 0, 1, " 1 0 1;", x -> x.slot(0, 1));
        range("block 7 5 0;slot 0 0 ", 1, 6, " 0 1;", x -> x.slot(0, 2));
        range("block 7 5 0;slot 0 1 ", 1, 4, " 0 1;", x -> x.slot(0, 2));
        range("block 7 5 0;slot 0 0 1 ", 0, 4, " 1;", x -> x.slot(0, 3));
        range("block 7 5 0;slot 0 1 1 ", 0, 6, " 1;", x -> x.slot(0, 3));
        range("block 7 5 0;slot 0 0 1 0 ", 1, 9, ";", x -> x.slot(0, 4));
        range("block 2 2 0;slot 0 0 ", 1, 1, " 0 1;", x -> x.slot(0, 2));
        range("block 2 2 0;slot 0 1 ", 1, 1, " 0 1;", x -> x.slot(0, 2));
        range("block 12 2 0;slot 0 0 ", 1, 11, " 1 1;", x -> x.slot(0, 2));
        range("block 2 12 0;slot 0 1 ", 1, 11, " 1 1;", x -> x.slot(0, 2));
        range("block 2 12 0;slot 0 0 1 ", 0, 11, " 1;", x -> x.slot(0, 3));
        range("block 2 3 0;block 9 8 0;slot 1 0 ", 1, 8, " 7 1;", x -> x.slot(0, 2));
        range("block 9 8 0;block 2 3 0;slot 1 0 1 ", 0, 2, " 1;", x -> x.slot(0, 3));
    }

    private static void blockToldAhead() {
        Checks.says("B: told ahead");
        Checks.faulty(SLOT, 2, 5);
        Checks.faulty(SLOT + BLOCK, 2, 5);
        Checks.faulty(BLOCK + "slot 1 0 1 0 1;" + BLOCK, 2, 17);
        Checks.faultless(BLOCK + SLOT + BLOCK + "slot 1 0 1 0 1;");
        Checks.faulty(Checks.times(5, BLOCK) + "slot 5 0 1 0 1;", 2, 65);
        Checks.faultless(Checks.times(6, BLOCK) + "slot 5 0 1 0 1;");
        Checks.faulty(Checks.times(6, BLOCK) + "slot 6 0 1 0 1;", 2, 77);
        FrostMason x = Checks.told(BLOCK + SLOT);
        Checks.is("a block of an earlier quarry", -8, Checks.tell(x, SLOT));
        Checks.is("its place", 5, x.fault());
    }

    private static void orderNumbers() {
        Checks.says("N pieces, 1 to 9, of W by H, 1 to 12 each, by NIGHT T, 0 to 29, for V each, 1 to 99");
        range("order ", 1, 12, " 5 1 0 1;", x -> x.order(0, 0));
        range("order 5 ", 1, 12, " 1 0 1;", x -> x.order(0, 1));
        range("order 5 5 ", 1, 9, " 0 1;", x -> x.order(0, 2));
        range("order 5 5 1 ", 0, 29, " 1;", x -> x.order(0, 3));
        range("order 5 5 1 0 ", 1, 99, ";", x -> x.order(0, 4));
    }

    private static void oddsNumbers() {
        Checks.says("in NIGHT T, 0 to 29, COLD K, 1 to 9, in P of 8, 1 to 8");
        range("odds ", 0, 29, " 1 1;", TextBoundsTests::nightWithOdds);
        range("odds 0 ", 1, 9, " 1;", TextBoundsTests::greatestCold);
        range("odds 0 1 ", 1, 8, ";", x -> x.odds(0, 1));
        range("odds 29 9 ", 1, 8, ";", x -> x.odds(29, 9));
    }

    private static int nightWithOdds(FrostMason x) {
        int found = -1;
        for (int night = 0; night < 30; night++) {
            if (x.odds(night, 1) > 0) {
                found = found == -1 ? night : 99;
            }
        }
        return found;
    }

    private static int greatestCold(FrostMason x) {
        int found = 0;
        for (int k = 1; k <= 9; k++) {
            found = x.odds(0, k) > 0 ? k : found;
        }
        return found;
    }

    private static void eightTogether() {
        Checks.says("of one T 8 of 8 together at most; odds above 8 together: at P");
        Checks.faultless("odds 0 1 8;");
        Checks.faultless("odds 0 1 7;odds 0 2 1;");
        Checks.faultless("odds 0 1 1;odds 0 2 7;");
        Checks.faultless(Checks.times(8, "odds 0 1 1;"));
        Checks.faulty("odds 0 1 8;odds 0 2 1;", 2, 20);
        Checks.faulty("odds 0 1 7;odds 0 2 2;", 2, 20);
        Checks.faulty("odds 0 1 1;odds 0 2 8;", 2, 20);
        Checks.faulty("odds 0 1 1;odds 0 2   8;", 2, 22);
        Checks.faulty("odds 0 1 1;odds 0 2 008;", 2, 20);
        Checks.faulty("odds 0 1 1;odds 0 2 8", 2, 20);
        Checks.faulty(Checks.times(8, "odds 0 1 1;") + "odds 0 1 1;", 2, 97);
        Checks.faulty("odds 0 1 5;odds 0 2 9;", 2, 20);
        Checks.faulty("odds 0 1 8;odds 0 2 0;", 2, 20);
        Checks.faultless("odds 0 1 8;odds 1 1 8;odds 29 1 8;");
        Checks.faulty("odds 29 1 8;odds 28 1 8;odds 29 1 1;", 2, 34);
        FrostMason x = Checks.told("odds 0 1 8;");
        Checks.is("odds of an earlier quarry don't count", 0, Checks.tell(x, "odds 0 1 8;"));
        Checks.is("a fault", -8, Checks.tell(x, "odds 0 1 8;odds 0 1 1;"));
        Checks.is("nor those of a faulty one", 0, Checks.tell(x, "odds 0 1 8;"));
    }

    private static void severalOfOneNightAndCold() {
        Checks.says("several of one T and K as told");
        FrostMason x = Checks.told("odds 3 5 2;odds 3 5 3;odds 3 6 1;odds 3 5 2;");
        Checks.is("together", 8, x.odds(3, 5));
        Checks.is("above them", 1, x.odds(3, 6));
        int[] due = {5, 5, 5, 5, 5, 6, 5, 5};
        for (int draw = 0; draw < 8; draw++) {
            FrostMason y = Checks.told("odds 0 5 2;odds 0 5 3;odds 0 6 1;odds 0 5 2;");
            y.seed(Checks.seedFor(draw, 8));
            y.night(0, -1);
            Checks.is("cold by draw " + draw, due[draw], y.cold(0));
        }
    }

    private static void waterSledgeThaw() {
        Checks.says("\"water\" L (0 to 12), \"sledge\" S (0 to 9), \"thaw\" T (0 to 30)");
        range("water ", 0, 12, ";", x -> x.told(3));
        range("sledge ", 0, 9, ";", x -> x.told(4));
        range("thaw ", 0, 30, ";", x -> x.told(5));
    }

    private static void withoutWaterSledgeThaw() {
        Checks.says("12 without, 9 without, 30 without");
        String[] texts = {"", "water 0;", "sledge 0;", "thaw 0;", "water 0;sledge 0;", "sledge 0;thaw 0;", "thaw 0;water 0;"};
        int[][] due = {{12, 9, 30}, {0, 9, 30}, {12, 0, 30}, {12, 9, 0}, {0, 0, 30}, {12, 0, 0}, {0, 9, 0}};
        FrostMason again = Checks.told("water 5;sledge 6;thaw 7;");
        for (int i = 0; i < texts.length; i++) {
            FrostMason x = Checks.told(texts[i]);
            Checks.tell(again, texts[i]);
            for (int j = 0; j < 3; j++) {
                Checks.is("told(" + (3 + j) + ") of '" + texts[i] + "'", due[i][j], x.told(3 + j));
                Checks.is("told(" + (3 + j) + ") of '" + texts[i] + "' behind others", due[i][j], again.told(3 + j));
            }
        }
    }

    private static void theLastCounts() {
        Checks.says("of the last three the last counts");
        Checks.is("water", 0, Checks.told("water 12;water 5;water 0;").told(3));
        Checks.is("water", 12, Checks.told("water 0;thaw 1;water 12;").told(3));
        Checks.is("sledge", 0, Checks.told("sledge 9;sledge 0;").told(4));
        Checks.is("sledge", 9, Checks.told("sledge 0;water 1;sledge 9;").told(4));
        Checks.is("thaw", 0, Checks.told("thaw 30;thaw 0;").told(5));
        Checks.is("thaw", 30, Checks.told("thaw 0;sledge 1;thaw 30;").told(5));
        Checks.faulty("water 13;water 12;", 2, 6);
        Checks.faulty("water 12;water 13;", 2, 15);
    }

    private static void digits() {
        Checks.says("Numbers: digits, as many as stand there");
        Checks.is("zeros ahead", 12, Checks.told("water 0000000000000000000000012;").told(3));
        Checks.is("zeros alone", 0, Checks.told("water 0000000000000000000000000;").told(3));
        Checks.faulty("water 120;", 2, 6);
        Checks.faulty("block 22 0;", 2, 6);
        Checks.faulty("block 2 20;", 2, 8);
        Checks.faulty("block 2 2;", 1, 9);
        Checks.faulty("block 2 2 0 0;", 1, 12);
        Checks.faulty("block 2 2 00 ;slot 00 0 1 0 10;", 2, 28);
        Checks.faulty("thaw " + Checks.times(590, "9") + ";", 2, 5);
        // Numbers that are within range where a machine's numbers wrap.
        String[] wraps = {"256", "65536", "2147483648", "4294967296", "4294967299", "9223372036854775808", "18446744073709551616", "18446744073709551619"};
        for (String wrap : wraps) {
            Checks.faulty("thaw " + wrap + ";", 2, 5);
        }
    }

    private static void words() {
        Checks.says("WORDS: small letters, as many as stand there");
        for (String word : WORDS) {
            int length = word.length();
            Checks.faulty(word.substring(0, length - 1) + " 2 2 0;", 1, 0);
            Checks.faulty(word.substring(1) + " 2 2 0;", 1, 0);
            Checks.faulty(word + "s 2 2 0;", 1, 0);
            Checks.faulty(word + "a 2 2 0;", 1, 0);
            Checks.faulty(word + "z 2 2 0;", 1, 0);
            Checks.faulty(word + word + " 2 2 0;", 1, 0);
            Checks.faulty(word.substring(0, length - 1) + "x 2 2 0;", 1, 0);
            Checks.faulty("x" + word.substring(1) + " 2 2 0;", 1, 0);
            Checks.faulty(word.toUpperCase() + " 2 2 0;", 1, 0);
            Checks.faulty(Character.toUpperCase(word.charAt(0)) + word.substring(1) + " 2 2 0;", 1, 0);
            Checks.faulty(word.substring(0, 2) + " " + word.substring(2) + " 2 2 0;", 1, 0);
        }
        Checks.faulty("a", 1, 0);
        Checks.faulty("z", 1, 0);
        Checks.faulty(BLOCK + "blocks", 1, 12);
    }

    private static void blanks() {
        Checks.says("blanks (32) may stand ahead of all these, and at the end");
        FrostMason x = Checks.told("   block   5   4   1   ;   slot   0   0   2   1   3   ;   thaw   9   ;   ");
        Checks.is("block", 5, x.piece(0, 2));
        Checks.is("slot", 3, x.slot(0, 4));
        Checks.is("thaw", 9, x.told(5));
        FrostMason y = Checks.told("block5 4 1;slot0 0 2 1 3;order1 4 1 0 6;odds0 1 1;water1;sledge2;thaw9;");
        Checks.is("none between a word and a number", 9, y.told(5));
        Checks.is("none between a word and a number", 2, y.told(4));
        Checks.is("none between a word and a number", 1, y.odds(0, 1));
        Checks.faultless(" ");
        Checks.faultless(THAW + " ");
        int[] others = {0, 9, 10, 11, 12, 13, 31, 33, 160};
        for (int other : others) {
            Checks.faulty((char) other + THAW, 1, 0);
            Checks.faulty("thaw" + (char) other + "3;", 1, 4);
            Checks.faulty("thaw 3" + (char) other + ";", 1, 6);
            Checks.faulty("block 2" + (char) other + "2 0;", 1, 7);
            Checks.faulty(THAW + (char) other, 1, 7);
        }
    }

    private static void whatCantStand() {
        Checks.says("FAULT 1: what can't stand there");
        int[] signs = {1, '!', '+', ',', '-', '.', '/', ':', '<', '@', 'A', 'Z', '[', '`', '{', '~', 127, 128, 200, 255};
        for (int sign : signs) {
            Checks.faulty(" " + (char) sign + " ", 1, 1);
            Checks.faulty("thaw " + (char) sign + "3;", 1, 5);
            Checks.faulty("thaw" + (char) sign + "3;", 1, 4);
            Checks.faulty("thaw 3" + (char) sign + ";", 1, 6);
            Checks.faulty("thaw 3 " + (char) sign, 1, 7);
            Checks.faulty(THAW + (char) sign, 1, 7);
        }
        // Each place has signs that stand elsewhere, but not there.
        Checks.faulty("0", 1, 0);
        Checks.faulty("9 thaw 3;", 1, 0);
        Checks.faulty(";", 1, 0);
        Checks.faulty("  ;", 1, 2);
        Checks.faulty(THAW + ";", 1, 7);
        Checks.faulty(THAW + "3", 1, 7);
        Checks.faulty("thaw;", 1, 4);
        Checks.faulty("thaw ;", 1, 5);
        Checks.faulty("thaw thaw 3;", 1, 5);
        Checks.faulty("thaw a;", 1, 5);
        Checks.faulty("thaw z;", 1, 5);
        Checks.faulty("thaw 3 3;", 1, 7);
        Checks.faulty("thaw 3 thaw 3;", 1, 7);
        Checks.faulty("thaw 3a;", 1, 6);
        Checks.faulty("block 2;", 1, 7);
        Checks.faulty("block 2 2 ;", 1, 10);
        Checks.faulty("order 1 1 1 1;", 1, 13);
        Checks.faulty("odds 1 1;", 1, 8);
        Checks.faulty(BLOCK + "slot 0 0 1 0;", 1, 24);
        Checks.faulty("water 1 1;", 1, 8);
        Checks.faulty("odds 1 1 1 1;", 1, 11);
        Checks.faulty("order 1 1 1 1 1 1;", 1, 16);
        Checks.faulty(BLOCK + "slot 0 0 1 0 1 1;", 1, 27);
    }

    private static void endsTooEarly() {
        Checks.says("at the length, if the text ends too early");
        String text = "block 3 4 1;slot 0 1 3 2 9;order 12 11 9 29 99;odds 29 9 8;water 12;sledge 9;thaw 30;";
        int clause = 0;
        for (int length = 1; length <= text.length(); length++) {
            String cut = text.substring(0, length);
            String last = cut.substring(clause);
            if (cut.endsWith(";")) {
                Checks.faultless(cut);
                clause = length;
            } else if (isWhole(last)) {
                Checks.faulty(cut, 1, length);
                Checks.faulty(cut + "    ", 1, length + 4);
            } else {
                Checks.faulty(cut, 1, clause);
            }
        }
        // What stands on the tape behind the first n bytes is not of the text.
        FrostMason x = new FrostMason();
        Checks.put(x, "thaw 3;thaw 4;");
        Checks.is("a text cut ahead of its end", -9, x.quarry(6));
        Checks.is("its place", 6, x.fault());
        Checks.put(x, "thaw 30;");
        Checks.is("a number cut", -9, x.quarry(6));
        Checks.is("its place", 6, x.fault());
        Checks.put(x, "thaw 3;thaw 31;x");
        Checks.is("a text ahead of faults", 0, x.quarry(7));
        Checks.is("no fault", -1, x.fault());
        Checks.is("thaw", 3, x.told(5));
    }

    /** Whether the clause begins with one of the words, not with a part of it. */
    private static boolean isWhole(String clause) {
        int end = 0;
        while (end < clause.length() && Character.isLetter(clause.charAt(end))) {
            end++;
        }
        for (String word : WORDS) {
            if (word.equals(clause.substring(0, end))) {
                return true;
            }
        }
        return false;
    }

    private static void firstFromTheLeft() {
        Checks.says("FAULTS, the first from the left");
        Checks.faulty("thaw 31;x", 2, 5);
        Checks.faulty("thaw 31", 2, 5);
        Checks.faulty("thaw 31 3;", 2, 5);
        Checks.faulty("x;thaw 31;", 1, 0);
        Checks.faulty("thaw 3 31;", 1, 7);
        Checks.faulty("block 1 13 2;", 2, 6);
        Checks.faulty("block 2 13 2;", 2, 8);
        Checks.faulty("block 13 x;", 2, 6);
        Checks.faulty("block x 13;", 1, 6);
        Checks.faulty("order 0 0 0 30 0;", 2, 6);
        Checks.faulty("order 1 1 0 30 0;", 2, 10);
        Checks.faulty("odds 0 0 9;", 2, 7);
        Checks.faulty("odds 30 0 9;", 2, 5);
        Checks.faulty(BLOCK + "slot 0 2 9 9 0;", 2, 19);
        Checks.faulty(BLOCK + "slot 0 0 2 9 0;", 2, 21);
        Checks.faulty(BLOCK + "slot 0 0 1 2 0;", 2, 23);
        Checks.faulty(Checks.times(6, BLOCK) + "thaw 31;" + BLOCK, 2, 77);
        Checks.faulty(Checks.times(7, BLOCK) + "thaw 31;", 3, 72);
        Checks.faulty(Checks.times(7, BLOCK) + "x", 3, 72);
        Checks.faulty(Checks.times(7, ORDER) + Checks.times(7, BLOCK), 3, 96);
    }

    private static void atItsFirstByte() {
        Checks.says("at its first byte");
        Checks.faulty("    blocks 2 2 0;", 1, 4);
        Checks.faulty("block    13 2 0;", 2, 9);
        Checks.faulty("block 0000013 2 0;", 2, 6);
        Checks.faulty("thaw 3   x;", 1, 9);
        Checks.faulty(Checks.times(6, BLOCK) + "     " + BLOCK, 3, 77);
    }

    private static void ofOnePlaceTheLeast() {
        Checks.says("of one place the least");
        String most = Checks.times(60, THAW);
        Checks.faulty(most + "thaws", 1, 420);
        Checks.faulty(most + "a", 1, 420);
        Checks.faulty(most + ";", 1, 420);
        Checks.faulty(most + "3", 1, 420);
        Checks.faulty(most + "  {", 1, 422);
        Checks.faulty(most + "thaw", 3, 420);
        Checks.faulty(most + "thaw;", 3, 420);
        Checks.faulty(Checks.times(6, BLOCK) + "blocks", 1, 72);
        Checks.faulty(Checks.times(6, BLOCK) + "block;", 3, 72);
    }
}

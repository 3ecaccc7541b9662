/** Part 3 of the terms: the bounds of PLAN, PROMISE, TONIGHT, one DEPTH more, THUMB, TOWER and FACE. */
public final class PlanBoundsTests {
    private static final String ONE = "block 4 3 0;slot 0 0 2 1 3;order 2 3 2 29 10;";
    /** Three slots that are worth nothing stand ahead of one that is. */
    private static final String FOURTH = "block 2 2 0;block 2 2 0;block 2 2 0;block 4 3 0;slot 0 0 1 0 1;slot 1 0 1 0 1;slot 2 0 1 0 1;";

    public static void main(String[] args) {
        thirtyNightsOfPlan();
        notAliveAreLeftOut();
        thoseAboveWater();
        asFromNowOn();
        nothingStaysChanged();
        idle();
        toNightTwentyNine();
        ordersThatHaveAll();
        promiseSeeds();
        promiseMany();
        waterTonight();
        firstThreeTonight();
        firstThreeInTheNext();
        leastBits();
        nightTwentyNine();
        nextSetWhenThisIsOver();
        exactly();
        leastTerms();
        thisNightAlone();
        sixAtMost();
        deeperMost();
        deeperNineAtMost();
        deeperFirst();
        deeperNone();
        deeperInTheLastNight();
        sixtyRecords();
        trust();
        listening();
        towerNoWiderNoHigher();
        towerLyingOnes();
        faceOfNeed();
        faceNights();
        Checks.end();
    }

    private static void worth(FrostMason x, int set, long above, long below) {
        Checks.is("tonight", set, x.tonight());
        Checks.is("worth, above", above, x.worth(0));
        Checks.is("worth, below", below, x.worth(1));
    }

    private static void now(FrostMason x, int fill, long above, long below) {
        Checks.is("now(" + fill + "), above", above, x.now(fill, 0));
        Checks.is("now(" + fill + "), below", below, x.now(fill, 1));
    }

    private static void thirtyNightsOfPlan() {
        Checks.says("PLAN: NIGHT by NIGHT, 30 at most");
        FrostMason x = Checks.told(ONE + "odds 29 9 8;");
        Checks.is("none at first", 0, x.count(0));
        for (int i = 1; i <= 29; i++) {
            Checks.is("plan", i, x.plan(0));
        }
        Checks.is("the 30th", 30, x.plan(1));
        Checks.is("it is filled in night 29", 1, x.would(0, 1));
        Checks.is("29 are idle", 29, x.would(0, 3));
        Checks.is("a 31st", -1, x.plan(0));
        Checks.is("a 31st", -1, x.plan(1));
        Checks.is("still 30", 30, x.count(0));
        Checks.is("nothing is changed", 1, x.would(0, 1));
        Checks.is("cleared", 30, x.clear());
        Checks.is("one again", 1, x.plan(1));
        Checks.is("the old ones are gone", 0, x.would(0, 1));
        Checks.is("the old ones are gone", 0, x.would(0, 3));
    }

    private static void notAliveAreLeftOut() {
        Checks.says("those that are not ALIVE then are left out");
        String text = "block 6 6 0;slot 0 0 3 1 9;slot 0 0 3 4 9;slot 0 1 3 1 9;odds 0 9 8;odds 1 9 8;odds 2 9 8;";
        FrostMason x = Checks.told(text + "water 1;");
        x.plan(7);
        x.plan(7);
        x.plan(7);
        Checks.is("the second is dead by then and takes no water", 2, x.would(0, 1));
        Checks.is("idle in the third", 1, x.would(0, 3));
        Checks.is("no bruise of dead ones", 0, x.would(0, 5));
        x.night(1, 9);
        Checks.is("split now", 1, x.would(0, 1));
        Checks.is("idle", 2, x.would(0, 3));
        // Those not ALIVE now may come into a plan; in a plan they are looked at NIGHT by NIGHT.
        Checks.is("not alive ones", 4, x.plan(3));
    }

    private static void thoseAboveWater() {
        Checks.says("and those above L, the greatest numbers");
        String text = "block 9 9 0;slot 0 0 2 0 9;slot 0 0 4 0 9;slot 0 0 6 0 9;slot 0 0 8 0 9;odds 0 9 8;order 2 9 9 29 1;order 1 9 1 29 50;";
        // The lines 2, 4, 6, 8 give a piece of 2 by 9 each; the last one a piece of 1 by 9 too.
        int[] paid = {0, 1, 2, 3, 54};
        for (int water = 0; water <= 4; water++) {
            FrostMason x = Checks.told(text + "water " + water + ";");
            x.plan(15);
            Checks.is("splits by water " + water, water, x.would(0, 1));
            Checks.is("paid by water " + water, paid[water], x.would(0, 0));
            Checks.is("idle by water " + water, water == 0 ? 1 : 0, x.would(0, 3));
        }
    }

    private static void asFromNowOn() {
        Checks.says("as from now on, by a SEED");
        FrostMason x = Checks.told(ONE + "odds 2 9 8;");
        x.plan(1);
        x.plan(1);
        Checks.is("nights 0 and 1 have no odds", 0, x.would(0, 1));
        x.night(0, 0);
        Checks.is("nights 1 and 2", 1, x.would(0, 1));
        Checks.is("paid more than now", 20, x.would(0, 0));
        x.night(0, 0);
        Checks.is("nights 2 and 3", 1, x.would(0, 1));
        x.night(0, 0);
        Checks.is("nights 3 and 4", 0, x.would(0, 1));
        FrostMason y = Checks.told("block 4 3 0;block 2 2 0;slot 0 0 2 1 3;order 2 3 2 29 10;order 2 2 1 29 3;odds 1 9 8;odds 2 1 8;");
        y.night(1, 1);
        y.plan(1);
        y.plan(0);
        Checks.is("paid now", 3, y.sums(3));
        Checks.is("bruised now", 1, y.sums(6));
        Checks.is("paid more than now", 20, y.would(0, 0));
        Checks.is("bruises of the plan", 0, y.would(0, 5));
        // What had split, gone astray and been bruised ahead of the plan is not of it.
        FrostMason w = Checks.told("block 5 4 1;block 4 4 0;slot 0 0 2 1 3;slot 1 0 2 0 2;order 1 4 1 29 5;odds 2 3 8;odds 3 4 8;");
        w.seed(Checks.seedFor(0, 4));
        w.night(2, 3);
        w.night(1, 5);
        Checks.is("astray now", 1, w.sums(5));
        w.plan(2);
        int[] first = {0, 0, 0, 0, 1, 1};
        int[] both = {0, 1, 0, 0, 1, 1};
        for (int what = 0; what < 6; what++) {
            Checks.is("would(0, " + what + ") of one night", first[what], w.would(0, what));
        }
        w.plan(2);
        for (int what = 0; what < 6; what++) {
            Checks.is("would(0, " + what + ") of two nights", both[what], w.would(0, what));
        }
        for (int draw = 0; draw < 8; draw++) {
            FrostMason z = Checks.told(ONE + "odds 0 9 4;");
            z.plan(1);
            z.seed(Checks.seedFor(7 - draw, 8));
            Checks.is("by the seed of the call, draw " + draw, draw < 4 ? 1 : 0, z.would(Checks.seedFor(draw, 8), 1));
        }
    }

    private static void nothingStaysChanged() {
        Checks.says("nothing stays changed");
        FrostMason x = Checks.told("block 5 4 1;slot 0 0 2 1 3;order 1 4 1 29 10;odds 0 5 4;odds 1 5 4;odds 2 6 4;");
        x.seed(4711);
        x.plan(1);
        x.plan(1);
        x.night(1, 2);
        String before = Checks.all(x);
        for (int what = 0; what < 6; what++) {
            x.would(99, what);
        }
        x.promise(0, 5, 99);
        Checks.same("behind would and promise", before, Checks.all(x));
        x.tonight();
        x.worth(0);
        x.now(1, 0);
        x.deeper();
        x.left(0, 0, 0);
        x.fits(0, 2, 1);
        x.tower();
        x.face(0);
        Checks.same("behind what only asks", before, Checks.all(x));
    }

    private static void idle() {
        Checks.says("IDLE is a NIGHT of it in which nothing is FILLED");
        FrostMason x = Checks.told(ONE);
        Checks.is("no plan", 0, x.would(0, 3));
        x.plan(0);
        Checks.is("nothing planned", 1, x.would(0, 3));
        x.plan(1);
        Checks.is("filled, though there is no frost", 1, x.would(0, 3));
        x.plan(0);
        Checks.is("nothing planned", 2, x.would(0, 3));
        x.night(1, 9);
        Checks.is("all planned are dead", 3, x.would(0, 3));
        FrostMason dry = Checks.told(ONE + "water 0;");
        dry.plan(1);
        Checks.is("no water", 1, dry.would(0, 3));
    }

    private static void toNightTwentyNine() {
        Checks.says("from now on (to NIGHT 29)");
        FrostMason x = Checks.told(ONE + "odds 29 9 8;");
        for (int i = 0; i < 30; i++) {
            x.plan(0);
        }
        for (int night = 0; night < 30; night++) {
            Checks.is("idle from night " + night, 30 - night, x.would(0, 3));
            if (night == 29) {
                x.clear();
                x.plan(1);
                x.plan(1);
                Checks.is("night 29 is in it", 1, x.would(0, 1));
                Checks.is("a night 30 is not", 0, x.would(0, 3));
            }
            x.night(0, 0);
        }
        Checks.is("none any more", 0, x.would(0, 1));
        Checks.is("none any more", 0, x.would(0, 0));
        Checks.is("none any more", 0, x.would(0, 3));
        Checks.is("a plan may still be made", 3, x.plan(1));
    }

    private static void ordersThatHaveAll() {
        Checks.says("ORDERS that have all their N");
        FrostMason x = Checks.told("block 4 3 0;block 2 2 0;slot 0 0 2 1 3;order 2 3 2 29 1;order 2 3 1 29 1;order 2 2 1 29 1;odds 1 9 8;");
        x.plan(0);
        Checks.is("one by the plan's night", 1, x.would(0, 4));
        x.plan(1);
        Checks.is("two: the second order gets none", 2, x.would(0, 4));
        x.night(0, 0);
        x.clear();
        Checks.is("those that have them now, without a plan", 1, x.would(0, 4));
        FrostMason one = Checks.told("block 4 3 0;slot 0 0 2 1 3;order 2 3 3 29 1;odds 0 9 8;");
        one.plan(1);
        Checks.is("two of three are not all", 0, one.would(0, 4));
        Checks.is("two of three are not all", 0, one.promise(0, 0, 1));
    }

    private static void promiseSeeds() {
        Checks.says("of SEEDS s, s and 1, .. (wrapping)");
        FrostMason x = Checks.told(ONE + "odds 0 9 3;");
        x.plan(1);
        int[] starts = {Integer.MAX_VALUE, Integer.MAX_VALUE - 1, Integer.MAX_VALUE - 20, -1, -20, 0, Integer.MIN_VALUE};
        for (int start : starts) {
            int due = 0;
            for (int i = 0; i < 40; i++) {
                long seed = (start & 0xffffffffL) + i;
                due += (Checks.behind((int) (seed % 4294967296L)) >>> 16 & 7) < 3 ? 1 : 0;
            }
            Checks.is("promise of 40 from " + start, due, x.promise(0, start, 40));
        }
        int first = x.promise(0, Integer.MAX_VALUE, 1);
        int second = x.promise(0, Integer.MIN_VALUE, 1);
        Checks.is("the greatest, then the least", first + second, x.promise(0, Integer.MAX_VALUE, 2));
        x.seed(12);
        Checks.is("the SEED itself is not asked", first, x.promise(0, Integer.MAX_VALUE, 1));
        Checks.is("nor changed", 12, x.seed(0));
    }

    private static void promiseMany() {
        Checks.says("PROMISE of so many SEEDS (1 to 99)");
        FrostMason x = Checks.told(ONE + "odds 0 9 8;");
        Checks.is("without a plan", 0, x.promise(0, 0, 99));
        x.plan(1);
        Checks.is("1", 1, x.promise(0, 0, 1));
        Checks.is("99", 99, x.promise(0, 0, 99));
        Checks.refusesOutside("many", 1, 99, Checks.ARGUMENT, many -> x.promise(0, 0, many));
        Checks.refusesOutside("order", 0, 0, Checks.NO_SUCH, order -> x.promise(order, 0, 1));
        x.night(1, 9);
        Checks.is("it has all already", 99, x.promise(0, 0, 99));
        Checks.pass(x, 29);
        Checks.is("behind the last night too", 99, x.promise(0, 0, 99));
    }

    private static void waterTonight() {
        Checks.says("TONIGHT: of all sets of ALIVE SLOTS (L at most)");
        String text = "block 4 3 0;block 6 5 0;block 8 7 0;slot 0 0 2 1 9;slot 1 0 3 1 9;slot 2 0 4 1 9;order 2 3 2 0 5;order 3 5 2 0 6;order 4 7 2 0 7;odds 0 9 8;";
        worth(Checks.told(text + "water 0;"), 0, 0, 1);
        worth(Checks.told(text + "water 1;"), 4, 14, 1);
        worth(Checks.told(text + "water 2;"), 6, 26, 1);
        worth(Checks.told(text + "water 3;"), 7, 36, 1);
        worth(Checks.told(text), 7, 36, 1);
        // In the next NIGHT too: with one a night the dearest two are paid.
        String next = "block 4 3 0;block 6 5 0;block 8 7 0;slot 0 0 2 1 9;slot 1 0 3 1 9;slot 2 0 4 1 9;order 2 3 2 1 5;order 3 5 2 1 6;order 4 7 2 1 7;odds 0 9 8;odds 1 9 8;";
        worth(Checks.told(next + "water 1;"), 2, 26, 1);
        worth(Checks.told(next + "water 2;"), 1, 36, 1);
        worth(Checks.told(next + "water 3;"), 0, 36, 1);
    }

    private static void firstThreeTonight() {
        Checks.says("only the first three ALIVE ones");
        String worthless = "block 2 2 0;block 2 2 0;block 2 2 0;block 4 3 0;";
        String end = "order 2 3 2 0 10;odds 0 9 8;";
        worth(Checks.told(worthless + "slot 3 0 2 0 3;" + end), 1, 20, 1);
        worth(Checks.told(worthless + "slot 0 0 1 0 1;slot 3 0 2 0 3;" + end), 2, 20, 1);
        worth(Checks.told(worthless + "slot 0 0 1 0 1;slot 1 0 1 0 1;slot 3 0 2 0 3;" + end), 4, 20, 1);
        worth(Checks.told(FOURTH + "slot 3 0 2 0 3;" + end), 0, 0, 1);
        FrostMason x = Checks.told(FOURTH + "slot 3 0 2 0 3;order 2 3 2 9 10;odds 1 9 8;");
        x.night(1, 9);
        worth(x, 8, 20, 1);
        FrostMason y = Checks.told(FOURTH + "slot 3 0 2 0 3;order 2 3 2 9 10;odds 1 9 8;");
        y.night(0, 9);
        worth(y, 0, 0, 1);
        FrostMason none = Checks.told("block 4 3 0;order 4 3 1 0 9;");
        worth(none, 0, 9, 1);
    }

    private static void firstThreeInTheNext() {
        Checks.says("what is paid in the next one, its set of the first three ALIVE then");
        worth(Checks.told(FOURTH + "slot 3 0 2 0 3;order 2 3 2 1 10;odds 1 9 8;"), 0, 0, 1);
        worth(Checks.told(FOURTH + "slot 3 0 2 0 3;order 2 3 2 1 10;odds 0 9 8;odds 1 9 8;"), 1, 20, 1);
        worth(Checks.told(FOURTH + "slot 3 0 2 0 3;order 2 3 2 1 10;odds 0 9 4;odds 1 9 8;"), 1, 10, 1);
    }

    private static void leastBits() {
        Checks.says("of these sets the least (bits)");
        String two = "block 4 3 0;block 4 3 0;slot 0 0 2 1 9;slot 1 0 2 1 9;";
        worth(Checks.told(two + "order 2 3 4 0 5;odds 0 9 8;water 1;"), 1, 10, 1);
        worth(Checks.told(two + "order 2 3 2 0 5;odds 0 9 8;"), 1, 10, 1);
        worth(Checks.told(two + "order 2 3 4 0 5;odds 0 9 8;"), 3, 20, 1);
        worth(Checks.told(two + "order 2 3 4 1 5;odds 0 9 8;odds 1 9 8;"), 0, 20, 1);
        worth(Checks.told(two + "order 2 3 4 1 5;odds 0 9 8;odds 1 9 8;water 1;"), 1, 20, 1);
        worth(Checks.told(two + "odds 0 9 8;odds 1 9 8;"), 0, 0, 1);
        // The bits, not how many: the first two pay as much as the third alone.
        worth(Checks.told("block 8 3 0;block 10 5 0;slot 0 0 4 0 9;slot 0 0 2 0 9;slot 1 0 5 0 9;order 2 3 2 0 10;order 5 5 2 0 10;odds 0 9 8;sledge 2;"), 3, 20, 1);
        worth(Checks.told(two + "order 2 3 4 1 5;"), 0, 0, 1);
    }

    private static void nightTwentyNine() {
        Checks.says("In NIGHT 29 there is no next one");
        FrostMason x = Checks.told(ONE + "odds 29 9 4;");
        Checks.pass(x, 27);
        worth(x, 0, 0, 1);
        x.night(0, 0);
        worth(x, 0, 10, 1);
        x.night(0, 0);
        worth(x, 1, 10, 1);
        now(x, 1, 10, 1);
        x.night(0, 0);
        Checks.refuses("tonight", Checks.STATE, () -> x.tonight());
        Checks.refuses("worth", Checks.STATE, () -> x.worth(0));
        Checks.refuses("worth", Checks.STATE, () -> x.worth(1));
        Checks.refuses("now", Checks.STATE, () -> x.now(0, 0));
        Checks.refuses("now", Checks.STATE, () -> x.now(1, 1));
        Checks.refuses("deeper", Checks.STATE, () -> x.deeper());
        // Thaw, the order's night and the sledges bound both nights.
        worth(Checks.told(ONE + "odds 0 9 8;odds 1 9 8;thaw 0;"), 0, 0, 1);
        worth(Checks.told(ONE + "odds 0 9 8;odds 1 9 8;thaw 1;"), 1, 20, 1);
        worth(Checks.told(ONE + "odds 0 9 8;odds 1 9 8;thaw 2;"), 0, 20, 1);
        worth(Checks.told(ONE + "odds 0 9 8;odds 1 9 8;sledge 0;"), 0, 0, 1);
        worth(Checks.told(ONE + "odds 0 9 8;odds 1 9 8;sledge 1;"), 1, 20, 1);
        worth(Checks.told(ONE + "odds 0 9 8;odds 1 9 8;sledge 2;"), 0, 20, 1);
        worth(Checks.told("block 4 3 0;slot 0 0 2 1 3;order 2 3 2 0 10;odds 0 9 8;odds 1 9 8;"), 1, 20, 1);
        worth(Checks.told("block 4 3 0;slot 0 0 2 1 3;order 2 3 2 1 10;odds 0 9 8;odds 1 9 8;"), 0, 20, 1);
    }

    private static void nextSetWhenThisIsOver() {
        Checks.says("its set chosen as is best when this one is over");
        // Frost in 1 of 2 tonight and in 1 of 2 in the next: 20 in 3 of 4.
        worth(Checks.told(ONE + "odds 0 9 4;odds 1 9 4;"), 1, 15, 1);
        // The next one's COLD of 3 splits a slot only if it is not bruised: 7 of 8 to bruise it tonight.
        worth(Checks.told(ONE + "odds 0 9 1;odds 0 2 7;odds 1 3 8;"), 0, 20, 1);
        worth(Checks.told(ONE + "odds 0 9 1;odds 0 2 7;odds 1 4 8;"), 0, 20, 1);
        // With COLD 4 in 1 of 2 next a bruise does no harm: 20 by 8, and 7 by 8 of 10.
        worth(Checks.told(ONE + "odds 0 9 1;odds 0 2 7;odds 1 4 4;"), 1, 45, 4);
        // A split that went astray is known when the next set is chosen.
        FrostMason x = Checks.told("block 5 4 1;block 5 4 1;slot 0 0 2 1 3;slot 1 0 2 1 3;order 1 4 1 1 8;odds 0 5 8;odds 1 5 8;water 1;");
        // 1 of 4 tonight, else 1 of 4 in the next with the other: 8 times 7 by 16.
        worth(x, 1, 7, 2);
    }

    private static void exactly() {
        Checks.says("by odds (each DRAW of 4 alike), exactly");
        // 1 by 4 stands behind a DRAW of 0 alone: 1 of 8 and 1 of 4 each night.
        worth(Checks.told("block 5 4 1;slot 0 0 2 1 3;order 1 4 1 1 1;odds 0 5 1;odds 1 5 1;"), 1, 15, 256);
        // The pieces of 3 by 4 and 2 by 4 come by three DRAWS, one of 1 the other way round.
        worth(Checks.told("block 5 4 1;slot 0 0 2 1 3;order 3 4 1 0 1;odds 0 5 1;"), 1, 3, 32);
        worth(Checks.told("block 5 4 1;slot 0 0 2 1 3;order 1 4 1 0 1;odds 0 5 1;"), 1, 1, 32);
        // At an edge the DRAW to it leaves the line at C: three of 4.
        worth(Checks.told("block 5 4 1;slot 0 0 1 1 3;order 1 4 1 0 1;odds 0 5 1;"), 1, 3, 32);
        worth(Checks.told("block 5 4 1;slot 0 0 4 1 3;order 1 4 1 0 1;odds 0 6 1;"), 1, 3, 32);
        // With COLD of NEED and 2 there is no DRAW.
        worth(Checks.told("block 5 4 1;slot 0 0 1 1 3;order 1 4 1 0 1;odds 0 7 1;"), 1, 1, 8);
        worth(Checks.told("block 5 4 1;slot 0 0 2 1 3;order 1 4 1 0 1;odds 0 7 8;"), 0, 0, 1);
        // COLD of NEED less 1, NEED, NEED and 1, NEED and 2, none: all in one NIGHT.
        String colds = "odds 0 4 2;odds 0 5 1;odds 0 6 1;odds 0 7 2;";
        worth(Checks.told("block 5 4 1;slot 0 0 2 1 3;order 1 4 1 0 1;" + colds), 1, 1, 16);
        worth(Checks.told("block 5 4 1;slot 0 0 2 1 3;order 2 4 1 0 1;" + colds), 1, 7, 16);
        worth(Checks.told("block 5 4 1;slot 0 0 2 1 3;order 5 4 1 0 1;" + colds), 0, 1, 1);
        now(Checks.told("block 5 4 1;slot 0 0 2 1 3;order 5 4 1 0 1;" + colds), 1, 1, 2);
        now(Checks.told("block 5 4 1;block 5 4 0;slot 0 0 2 1 3;slot 1 0 2 1 3;order 3 4 2 0 1;" + colds), 3, 19, 16);
        // Three of them together: at least one of 1 by 4 in 37 of 64, in 1 of 8 nights.
        String three = "block 5 4 1;block 5 4 1;block 5 4 1;slot 0 0 2 1 3;slot 1 0 2 1 3;slot 2 0 2 1 3;";
        worth(Checks.told(three + "order 1 4 1 0 1;odds 0 5 1;"), 7, 37, 512);
        worth(Checks.told(three + "order 1 4 3 0 1;odds 0 5 1;"), 7, 3, 32);
    }

    private static void leastTerms() {
        Checks.says("a fraction in least terms");
        for (int eighths = 1; eighths <= 8; eighths++) {
            int divisor = eighths % 8 == 0 ? 8 : eighths % 4 == 0 ? 4 : eighths % 2 == 0 ? 2 : 1;
            FrostMason x = Checks.told("block 4 3 0;slot 0 0 2 1 3;order 2 3 1 0 1;odds 0 9 " + eighths + ";");
            worth(x, 1, eighths / divisor, 8 / divisor);
            now(x, 1, eighths / divisor, 8 / divisor);
        }
        FrostMason empty = new FrostMason();
        worth(empty, 0, 0, 1);
        now(empty, 0, 0, 1);
        Checks.refusesOutside("worth", 0, 1, Checks.ARGUMENT, what -> empty.worth(what));
        Checks.refusesOutside("now", 0, 1, Checks.ARGUMENT, what -> empty.now(0, what));
    }

    private static void thisNightAlone() {
        Checks.says("By odds what is paid this NIGHT alone, with SLOTS FILLED");
        FrostMason x = Checks.told(ONE + "odds 0 9 4;odds 1 9 8;");
        now(x, 1, 10, 1);
        now(x, 0, 0, 1);
        x.night(0, 0);
        now(x, 1, 20, 1);
        x.night(0, 0);
        now(x, 1, 0, 1);
        FrostMason lying = Checks.told("block 2 3 0;order 2 3 1 0 7;");
        now(lying, 0, 7, 1);
        lying.night(0, 0);
        now(lying, 0, 0, 1);
        FrostMason cold = Checks.told("block 4 3 0;slot 0 0 2 1 3;order 4 3 1 0 8;odds 0 9 4;");
        // Filled, the block is whole only without frost.
        now(cold, 1, 4, 1);
        now(cold, 0, 8, 1);
    }

    private static void sixAtMost() {
        Checks.says("IllegalArgumentException: also, as for night(), and more than six");
        String six = Checks.times(6, "block 4 3 1;") + "slot 0 0 2 0 3;slot 1 0 2 0 3;slot 2 0 2 0 3;slot 3 0 2 0 3;slot 4 0 2 0 3;slot 5 0 2 0 3;slot 0 1 1 0 1;";
        // Each crack goes astray in 1 of 2 and leaves 1 by 3 then.
        FrostMason any = Checks.told(six + "order 1 3 9 0 1;odds 0 5 1;");
        now(any, 63, 3, 8);
        now(any, 31, 5, 16);
        now(any, 1, 1, 16);
        FrostMason one = Checks.told(six + "order 1 3 1 0 1;odds 0 5 1;");
        now(one, 63, 63, 512);
        Checks.is("six alive ones behind the first", 6, Integer.bitCount(126 & one.undone()));
        Checks.is("six others", 31, one.now(126, 0));
        Checks.is("six others", 256, one.now(126, 1));
        Checks.refuses("seven", Checks.ARGUMENT, () -> one.now(127, 0));
        Checks.refuses("seven", Checks.ARGUMENT, () -> one.now(127, 1));
        Checks.is("a night may have seven", 7, one.night(127, 9));
        Checks.refuses("split", Checks.ARGUMENT, () -> one.now(1, 0));
        Checks.refuses("no such slot", Checks.ARGUMENT, () -> any.now(128, 0));
        Checks.refuses("no such slot", Checks.ARGUMENT, () -> any.now(Integer.MIN_VALUE, 0));
        Checks.refuses("no such slot", Checks.ARGUMENT, () -> any.now(-1, 0));
        FrostMason dry = Checks.told(six + "order 1 3 9 0 1;odds 0 5 1;water 2;");
        now(dry, 3, 1, 8);
        Checks.refuses("more than water", Checks.ARGUMENT, () -> dry.now(7, 0));
        FrostMason none = Checks.told(six + "water 0;");
        now(none, 0, 0, 1);
        Checks.refuses("no water", Checks.ARGUMENT, () -> none.now(1, 0));
    }

    private static void deeperMost() {
        Checks.says("WITH one DEPTH more: the ALIVE SLOT by which that becomes most");
        String text = "block 4 3 0;block 6 3 0;slot 0 0 2 1 2;slot 1 0 3 1 2;order 2 3 2 0 5;order 3 3 2 0 6;odds 0 3 8;";
        FrostMason x = Checks.told(text);
        Checks.is("the dearer one", 1, x.deeper());
        x.image();
        x.night(2, 9);
        Checks.is("behind its orders' night the first alive", 0, x.deeper());
        x.restore();
        Checks.is("again", 1, x.deeper());
        worth(x, 0, 0, 1);
        // Also one that is not among the first three: it is so in the next NIGHT.
        FrostMason fourth = Checks.told(FOURTH + "slot 3 0 2 0 2;order 2 3 2 1 10;odds 0 9 8;odds 1 3 8;");
        worth(fourth, 0, 0, 1);
        Checks.is("the fourth", 3, fourth.deeper());
        // One DEPTH more helps only where NEED falls by it.
        FrostMason step = Checks.told("block 4 3 0;block 6 3 0;slot 0 0 2 1 2;slot 1 0 3 1 1;order 2 3 2 0 5;order 3 3 2 0 60;odds 0 3 8;");
        Checks.is("from 2 to 3, not from 1 to 2", 0, step.deeper());
        FrostMason last = Checks.told("block 4 3 0;block 6 3 0;slot 0 0 2 1 8;slot 1 0 3 1 7;order 2 3 2 0 5;order 3 3 2 0 60;odds 0 1 8;");
        Checks.is("from 8 to 9, not from 7 to 8", 0, last.deeper());
    }

    private static void deeperNineAtMost() {
        Checks.says("if its DEPTH were 1 more (9 at most)");
        // Bruised in the first night, a slot of 10 would be of 9 yet and split by COLD 3; one of 9 is of 8 then.
        FrostMason x = Checks.told("block 5 4 1;block 4 3 0;slot 0 0 2 1 9;slot 1 0 2 1 2;order 2 4 1 1 8;order 2 3 1 1 1;odds 0 9 4;odds 0 2 4;odds 1 3 8;");
        Checks.is("the other one", 1, x.deeper());
        FrostMason y = Checks.told("block 4 3 0;block 4 3 0;slot 0 0 2 1 9;slot 1 0 2 1 9;order 2 3 9 1 5;odds 0 9 4;odds 1 9 4;");
        Checks.is("all at 9: the first", 0, y.deeper());
    }

    private static void deeperFirst() {
        Checks.says("of these the first");
        FrostMason x = Checks.told("block 4 3 0;block 4 3 0;block 2 2 0;slot 2 0 1 0 1;slot 0 0 2 1 2;slot 1 0 2 1 2;order 2 3 9 0 5;odds 0 3 8;");
        Checks.is("of two alike the first", 1, x.deeper());
        x.night(1, 9);
        Checks.is("worth nothing any more: the first alive", 1, x.deeper());
        x.night(2, 9);
        Checks.is("worth nothing any more: the first alive", 2, x.deeper());
    }

    private static void deeperNone() {
        Checks.says("NONE: none is ALIVE");
        Checks.is("no quarry", -1, new FrostMason().deeper());
        Checks.is("no slots", -1, Checks.told("block 4 3 0;").deeper());
        FrostMason x = Checks.told(ONE);
        Checks.is("one", 0, x.deeper());
        x.night(1, 9);
        Checks.is("split", -1, x.deeper());
        FrostMason taken = Checks.told("block 4 3 0;slot 0 0 2 1 3;order 4 3 1 0 1;");
        taken.night(0, 0);
        Checks.is("taken", -1, taken.deeper());
    }

    private static void deeperInTheLastNight() {
        Checks.says("that becomes most, in NIGHT 29 without a next one");
        FrostMason x = Checks.told("block 4 3 0;block 6 3 0;slot 0 0 2 1 2;slot 1 0 3 1 2;order 2 3 2 29 5;order 3 3 2 29 6;odds 29 3 8;");
        Checks.pass(x, 29);
        Checks.is("in night 29", 1, x.deeper());
        Checks.is("nothing stays changed", 2, x.slot(1, 4));
        x.night(0, 0);
        Checks.refuses("30 are gone", Checks.STATE, () -> x.deeper());
    }

    private static void sixtyRecords() {
        Checks.says("RECORDS (60 at most)");
        FrostMason x = new FrostMason();
        Checks.is("none", 0, x.count(1));
        for (int i = 1; i <= 60; i++) {
            Checks.is("thumb", i, x.thumb(i % 2 == 0, i % 3 == 0));
        }
        int listening = x.listening();
        Checks.is("a 61st", -1, x.thumb(true, true));
        Checks.is("a 61st", -1, x.thumb(true, false));
        Checks.is("a 61st", -1, x.thumb(false, true));
        Checks.is("a 61st", -1, x.thumb(false, false));
        Checks.is("still 60", 60, x.count(1));
        Checks.is("nothing is changed", listening, x.listening());
        Checks.is("10 of 30", 1, x.trust(true, 0));
        Checks.is("10 of 30", 3, x.trust(true, 1));
        Checks.is("10 of 30", 1, x.trust(false, 0));
        Checks.is("10 of 30", 3, x.trust(false, 1));
    }

    private static void trusts(FrostMason x, boolean said, int above, int below) {
        Checks.is("trust(" + said + ", 0)", above, x.trust(said, 0));
        Checks.is("trust(" + said + ", 1)", below, x.trust(said, 1));
    }

    private static void trust() {
        Checks.says("TRUST: of those said frost (or none) the part in which it came; 0 by 1, if it never was");
        FrostMason x = new FrostMason();
        trusts(x, true, 0, 1);
        trusts(x, false, 0, 1);
        x.thumb(true, true);
        trusts(x, true, 1, 1);
        trusts(x, false, 0, 1);
        x.thumb(true, false);
        x.thumb(true, false);
        trusts(x, true, 1, 3);
        x.thumb(false, false);
        trusts(x, true, 1, 3);
        trusts(x, false, 0, 1);
        x.thumb(false, true);
        trusts(x, false, 1, 2);
        x.thumb(false, true);
        trusts(x, false, 2, 3);
        trusts(x, true, 1, 3);
        Checks.refusesOutside("trust", 0, 1, Checks.ARGUMENT, what -> x.trust(true, what));
        Checks.refusesOutside("trust", 0, 1, Checks.ARGUMENT, what -> x.trust(false, what));
    }

    private static FrostMason records(int saidCame, int saidNot, int unsaidCame, int unsaidNot) {
        FrostMason x = new FrostMason();
        int[] many = {saidCame, saidNot, unsaidCame, unsaidNot};
        for (int kind = 0; kind < 4; kind++) {
            for (int i = 0; i < many[kind]; i++) {
                x.thumb(kind < 2, kind % 2 == 0);
            }
        }
        return x;
    }

    private static void listening() {
        Checks.says("LISTENING: more often right than saying always what came more often (frost, if alike); may be below 0");
        Checks.is("no records", 0, records(0, 0, 0, 0).listening());
        Checks.is("right once, as always saying it", 0, records(1, 0, 0, 0).listening());
        Checks.is("right once, as always saying it", 0, records(0, 0, 0, 1).listening());
        Checks.is("wrong once", -1, records(0, 1, 0, 0).listening());
        Checks.is("wrong once", -1, records(0, 0, 1, 0).listening());
        Checks.is("alike, always right", 1, records(1, 0, 0, 1).listening());
        Checks.is("alike, always wrong", -1, records(0, 1, 1, 0).listening());
        Checks.is("alike, always frost", 0, records(1, 1, 0, 0).listening());
        Checks.is("frost came more often", 1, records(2, 0, 0, 1).listening());
        Checks.is("none came more often", 1, records(1, 0, 0, 2).listening());
        Checks.is("the most", 30, records(30, 0, 0, 30).listening());
        Checks.is("the least", -60, records(0, 60, 0, 0).listening());
        Checks.is("the least", -60, records(0, 0, 60, 0).listening());
    }

    private static void towerNoWiderNoHigher() {
        Checks.says("TOWER: each laid either way, no wider and no higher than the one below");
        Checks.is("alike", 2, Checks.told("block 3 5 0;block 3 5 1;").tower());
        Checks.is("alike, turned", 2, Checks.told("block 3 5 0;block 5 3 1;").tower());
        Checks.is("one wider", 2, Checks.told("block 3 5 0;block 4 5 0;").tower());
        Checks.is("one wider, turned", 2, Checks.told("block 3 5 0;block 5 4 0;").tower());
        Checks.is("one higher", 2, Checks.told("block 3 5 0;block 3 6 0;").tower());
        Checks.is("wider, but lower", 1, Checks.told("block 3 5 0;block 4 4 0;").tower());
        Checks.is("wider, but lower, turned", 1, Checks.told("block 5 3 0;block 4 4 0;").tower());
        Checks.is("long and narrow", 1, Checks.told("block 2 12 0;block 11 3 0;").tower());
        Checks.is("as long and less narrow", 2, Checks.told("block 2 12 0;block 12 3 0;").tower());
        Checks.is("six", 6, Checks.told("block 12 12 0;block 2 2 0;block 12 2 0;block 3 12 0;block 2 3 0;block 12 7 0;").tower());
        Checks.is("the longer of two", 3, Checks.told("block 2 12 0;block 2 11 0;block 4 4 0;block 5 5 0;block 4 5 0;").tower());
    }

    private static void towerLyingOnes() {
        Checks.says("the most lying PIECES");
        Checks.is("none", 0, new FrostMason().tower());
        Checks.is("one", 1, Checks.told("block 2 2 0;").tower());
        FrostMason x = Checks.told("block 4 3 0;block 5 5 0;slot 0 0 2 1 3;order 4 3 1 0 1;order 5 5 1 1 1;sledge 1;");
        Checks.is("two", 2, x.tower());
        x.night(0, 0);
        Checks.is("one is taken", 1, x.tower());
        x.night(0, 0);
        Checks.is("both are taken", 0, x.tower());
        FrostMason parts = Checks.told("block 4 4 0;slot 0 0 2 0 9;slot 0 1 2 0 9;slot 0 1 2 3 9;");
        Checks.is("whole", 1, parts.tower());
        parts.night(1, 9);
        Checks.is("halves", 2, parts.tower());
        parts.night(6, 9);
        Checks.is("quarters", 4, parts.tower());
    }

    private static void faceOfNeed() {
        Checks.says("FACE of a SLOT, as it is: the NIGHTS gone in which COLD was its NEED or more");
        FrostMason x = Checks.told("block 9 9 0;slot 0 0 2 0 1;slot 0 0 4 0 3;slot 0 0 6 0 6;slot 0 0 8 0 9;slot 0 1 2 0 1;slot 0 1 4 0 9;");
        Checks.is("no night gone", 0, x.face(0));
        for (int cold = 0; cold <= 9; cold++) {
            x.night(0, cold);
        }
        int[] needs = {4, 3, 2, 1, 6, 3};
        for (int slot = 0; slot < needs.length; slot++) {
            Checks.is("need " + needs[slot], 1023 - (1 << needs[slot]) + 1, x.face(slot));
        }
        x.night(2, 2);
        Checks.is("as it is: bruised, its need is 4 now", 1024 - 16, x.face(1));
        x.night(2, 9);
        Checks.is("split ones too", 1024 - 16 + (1 << 11), x.face(1));
    }

    private static void faceNights() {
        Checks.says("NIGHTS as bits");
        FrostMason x = Checks.told("block 9 9 0;slot 0 0 2 0 1;");
        for (int night = 0; night < 30; night++) {
            x.night(0, 9);
            Checks.is("all nights gone", (int) ((1L << night + 1) - 1), x.face(0));
        }
        FrostMason y = Checks.told("block 9 9 0;slot 0 0 2 0 1;");
        Checks.pass(y, 29);
        y.night(0, 4);
        Checks.is("night 29 alone", 1 << 29, y.face(0));
        Checks.refusesOutside("face", 0, 0, Checks.NO_SUCH, slot -> y.face(slot));
        FrostMason again = Checks.told("block 9 9 0;slot 0 0 2 0 1;");
        again.image();
        again.night(0, 9);
        Checks.is("one", 1, again.face(0));
        again.restore();
        Checks.is("not gone any more", 0, again.face(0));
    }
}

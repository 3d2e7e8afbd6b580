/** Promises 26 to 29: the seed, years, slots; each sentence that names an edge has a test of its own. */
public final class EdgesOfYearsAndSlotsTest {
    private static final Check check = new Check();
    private static final long TIMES = 6364136223846793005L;
    private static final long AND = 1442695040888963407L;

    public static void main(String[] args) {
        seedIs0AtFirst();
        seedIsAnyLong();
        seedWraps();
        yearsAre1To30();
        yearsTellCellsOfHoles();
        lotsBelow20AreEaten();
        lotsFrom20AreDays();
        lotsAreOfTheUpper31Bits();
        owner0EatsIfItCan();
        nobodyIsThereToEat();
        yearsGoOn();
        slotsAre0To1();
        againOfNone();
        keepTellsTheDay();
        slotsKeepApart();
        slotsKeepWhatIsTold();
        slotsKeepNothingElse();
        keptOnceMore();
        goneOnMoreThanOnce();
        actsAreGoneWhenOneGoesOn();
        undoLeavesWhatWasKept();
        check.end();
    }

    private static long next(long seed) {
        return seed * TIMES + AND;
    }

    private static int lot(long seed) {
        return (int) ((next(seed) >>> 33) % 28);
    }

    /** Seeds behind which comes a lot; below 0 and above 0 by turns. */
    private static long seedAheadOf(int lot) {
        long seed = 1L;
        while (lot(seed) != lot) {
            seed = seed > 0L ? -seed : 1L - seed;
        }
        return seed;
    }

    /** "(THE SEED, a long; 0 at first)". */
    private static void seedIs0AtFirst() {
        check.due("at first", new LetHoles().seed(9L), 0L);
    }

    /** Promise 26: "THE SEED is v: what it was." */
    private static void seedIsAnyLong() {
        LetHoles x = new LetHoles();
        long was = 0L;
        for (long v : new long[] {1L, -1L, Long.MAX_VALUE, Long.MIN_VALUE, 1L << 32, -1L << 32, 0L}) {
            check.due("what it was", x.seed(v), was);
            was = v;
        }
        check.due("at last", x.seed(0L), 0L);
    }

    /** "(64 bits, wrapping)". */
    private static void seedWraps() {
        for (long v : new long[] {0L, 1L, 2L, -1L, Long.MAX_VALUE, Long.MIN_VALUE, 0x123456789abcdefL}) {
            LetHoles x = new LetHoles();
            x.seed(v);
            x.years(1);
            check.due("behind " + v, x.seed(0L), next(v));
        }
        LetHoles x = new LetHoles();
        x.years(1);
        check.due("behind 0", x.seed(2L), 1442695040888963407L);
        x.years(1);
        check.due("behind 2", x.seed(0L), -4275776585127002199L);
    }

    /** "m times (1 to 30)"; "OUTSIDE: m." */
    private static void yearsAre1To30() {
        for (int m = 1; m <= 30; m++) {
            LetHoles x = new LetHoles();
            x.years(m);
            long seed = 0L;
            for (int i = 0; i < m; i++) {
                seed = next(seed);
            }
            check.due("the seed behind " + m, x.seed(0L), seed);
        }
        LetHoles x = new LetHoles();
        x.seed(5L);
        check.due("0 years", x.years(0), Check.OUTSIDE);
        check.due("31 years", x.years(31), Check.OUTSIDE);
        check.due("-1 years", x.years(-1), Check.OUTSIDE);
        check.due("the seed stays", x.seed(0L), 5L);
    }

    /** "how many CELLS are of HOLES at last": none, one, all. */
    private static void yearsTellCellsOfHoles() {
        check.due("no holes", Check.dairy("DO0").years(30), 0);
        LetHoles all = Check.dairy("DO0Ha01");
        Check.days(all, 10);
        all.seed(seedAheadOf(27));
        check.due("all of them", all.years(1), 20);
        LetHoles one = Check.dairy("DO0Ha02");
        one.seed(seedAheadOf(27));
        check.due("one", one.years(1), 1);
    }

    /** "0 to 19: OWNER 0 eats that CELL". */
    private static void lotsBelow20AreEaten() {
        for (int lot = 0; lot < 20; lot++) {
            LetHoles x = Check.dairy("DO0Hj01");
            Check.days(x, 10);
            x.seed(seedAheadOf(lot));
            check.due("lot " + lot, x.years(1), 19);
            LetHoles blind = Check.dairy("DO0H" + (char) ('a' + lot) + "02");
            blind.seed(seedAheadOf(lot));
            check.due("just that cell, lot " + lot, blind.years(1), 0);
            blind.seed(seedAheadOf((lot + 1) % 20));
            check.due("not the next one, lot " + lot, blind.years(1), 1);
        }
    }

    /** "20 and more A DAY". */
    private static void lotsFrom20AreDays() {
        for (int lot = 20; lot < 28; lot++) {
            LetHoles x = Check.dairy("DO0Ha01Ht00");
            x.seed(seedAheadOf(lot));
            check.due("lot " + lot, x.years(1), 5);
        }
    }

    /** "its upper 31 bits by 28, what is left": never below 0, though the seed may be. */
    private static void lotsAreOfTheUpper31Bits() {
        LetHoles x = Check.dairy("DO0Ha01");
        Check.days(x, 10);
        for (long v = -20L; v <= 20L; v++) {
            x.seed(v);
            check.due("by the seed " + v, x.years(1), lot(v) < 20 ? 19 : 20);
        }
    }

    /** "if it can": what is eaten is not eaten again, and no day comes for it. */
    private static void owner0EatsIfItCan() {
        LetHoles x = Check.dairy("DO0Ha00");
        x.eat(0, 19);
        x.seed(seedAheadOf(19));
        check.due("it can't", x.years(1), 1);
        check.due("nothing is paid here", x.owner(0, 1), -1);
    }

    private static void nobodyIsThereToEat() {
        LetHoles x = new LetHoles();
        x.seed(seedAheadOf(0));
        check.due("no owner", x.years(1), 0);
        check.due("nothing is eaten", x.count(5), 0);
        check.due("no owner, 30 years", x.years(30), 0);
    }

    /** "(Nothing changes but THE SEED.)": the next years begin with the wheel as it is, and the seed as it became. */
    private static void yearsGoOn() {
        LetHoles x = Check.dairy("DO0O0R01Ha00Hm11");
        x.seed(42L);
        for (int i = 0; i < 5; i++) {
            LetHoles other = Check.dairy("DO0O0R01Ha00Hm11");
            long seed = x.seed(0L);
            x.seed(seed);
            other.seed(seed);
            check.due("years " + i, x.years(30), other.years(30));
            check.due("the wheel", x.count(4), Check.bits(0, 12));
        }
    }

    /** "SLOTS 0 to 1"; promises 28 and 29: "UNKNOWN". */
    private static void slotsAre0To1() {
        LetHoles x = new LetHoles();
        check.due("keep(-1)", x.keep(-1), Check.UNKNOWN);
        check.due("keep(0)", x.keep(0), 0);
        check.due("keep(1)", x.keep(1), 0);
        check.due("keep(2)", x.keep(2), Check.UNKNOWN);
        check.due("again(-1)", x.again(-1), Check.UNKNOWN);
        check.due("again(0)", x.again(0), 0);
        check.due("again(1)", x.again(1), 0);
        check.due("again(2)", x.again(2), Check.UNKNOWN);
    }

    /** "STATE: none were kept." */
    private static void againOfNone() {
        for (int slot = 0; slot < 2; slot++) {
            LetHoles x = Check.dairy("DO0Ha00");
            x.day();
            check.due("none were kept", x.again(slot), Check.STATE);
            check.due("the acts stay", x.count(7), 1);
            x.keep(1 - slot);
            check.due("the other slot's", x.again(slot), Check.STATE);
            check.due("this slot's", x.again(1 - slot), 1);
        }
    }

    /** Promise 28: "They are kept: THE DAY." */
    private static void keepTellsTheDay() {
        LetHoles x = Check.dairy("DO0Ha00");
        for (int days = 0; days < 16; days++) {
            check.due("keep", x.keep(days % 2), days);
            x.day();
        }
        check.due("slot 0", x.again(0), 14);
        check.due("slot 1", x.again(1), 15);
        check.due("THE DAY", x.count(3), 15);
    }

    private static void slotsKeepApart() {
        LetHoles x = Check.dairy("DO0Ha00");
        x.keep(0);
        x.day();
        x.keep(1);
        x.day();
        check.due("slot 0", x.again(0), 0);
        check.due("its cells", x.count(4), Check.bits(0));
        check.due("slot 1", x.again(1), 1);
        check.due("its cells", x.count(4), Check.bits(0, 1));
        check.due("slot 0 again", x.again(0), 0);
        check.due("its cells", x.count(4), Check.bits(0));
    }

    /** "keep what CELLS are, whose HOLES are, to whom they are LET, BALANCES, THE DAY". */
    private static void slotsKeepWhatIsTold() {
        LetHoles x = Check.dairy("DO0O0O0Ha02Hm12Ht22");
        x.eat(0, 5);
        x.let(0, 1);
        x.sell(1, 2);
        x.eat(2, 19);
        x.day();
        x.keep(0);
        x.eat(1, 0);
        x.sell(1, 0);
        x.let(1, 2);
        x.eat(0, 19 - 1);
        Check.days(x, 2);
        check.due("again", x.again(0), 1);
        check.due("cells of holes", x.count(4), Check.bits(0, 12));
        check.due("eaten", x.count(5), Check.bits(5, 19));
        check.due("holes left", x.count(6), 3);
        check.due("whose is 0", x.hole(0, 1), 0);
        check.due("whose is 1", x.hole(1, 1), 2);
        check.due("whose is 2", x.hole(2, 1), Check.NONE);
        check.due("let 0", x.hole(0, 2), 1);
        check.due("let 1", x.hole(1, 2), Check.NONE);
        check.dueBalances("balances", x, -1 + 1, 1 - 1, -1);
        check.due("THE DAY", x.count(3), 1);
    }

    /** What is not told to be kept: the text, what is tasted, the seed. */
    private static void slotsKeepNothingElse() {
        LetHoles x = Check.dairy("DO0Ha00");
        x.keep(0);
        x.taste(0, 0, 1);
        x.seed(8L);
        x.write('R');
        x.again(0);
        check.due("the text", x.count(0), 8);
        check.due("tasted", x.count(8), 1);
        check.due("the seed", x.seed(0L), 8L);
        x.rinse();
        x.wipe();
        x.again(0);
        check.due("tasted is rinsed", x.count(8), 0);
        check.due("the text is wiped", x.count(0), 0);
        check.due("the seed as set", x.seed(0L), 0L);
    }

    private static void keptOnceMore() {
        LetHoles x = Check.dairy("DO0Ha00");
        x.keep(0);
        x.day();
        check.due("kept over it", x.keep(0), 1);
        x.day();
        check.due("the later one", x.again(0), 1);
    }

    private static void goneOnMoreThanOnce() {
        LetHoles x = Check.dairy("DO0Ha00");
        x.keep(1);
        for (int i = 0; i < 3; i++) {
            Check.days(x, 1 + i);
            x.eat(0, 19);
            check.due("again", x.again(1), 0);
            check.due("its cells", x.count(4), Check.bits(0));
            check.due("nothing is eaten", x.count(5), 0);
            check.dueBalances("nothing is paid", x, 0);
        }
    }

    /** "(THE ROW of ACTS is empty when one goes on)". */
    private static void actsAreGoneWhenOneGoesOn() {
        LetHoles x = Check.dairy("DO0Ha00");
        Check.days(x, 20);
        x.keep(0);
        check.due("keep leaves them", x.count(7), 14);
        check.due("again", x.again(0), 20);
        check.due("no acts", x.count(7), 0);
        check.due("undo", x.undo(), Check.STATE);
        check.due("THE DAY stays", x.count(3), 20);
        x.day();
        check.due("one act", x.undo(), 0);
        check.due("THE DAY", x.count(3), 20);
    }

    private static void undoLeavesWhatWasKept() {
        LetHoles x = Check.dairy("DO0Ha00");
        Check.days(x, 2);
        x.keep(0);
        check.due("undone", x.undo(), 1);
        x.keep(1);
        check.due("undone", x.undo(), 0);
        check.due("slot 0", x.again(0), 2);
        check.due("its cells", x.count(4), Check.bits(0, 1, 2));
        check.due("slot 1", x.again(1), 1);
        check.due("its cells", x.count(4), Check.bits(0, 1));
    }
}

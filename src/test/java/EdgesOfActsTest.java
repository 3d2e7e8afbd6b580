/** Promises 9 to 13, and what ==== 1 tells of A DAY and of ACTS: each sentence that names an edge has its test. */
public final class EdgesOfActsTest {
    private static final Check check = new Check();
    private static final String CELLS = "abcdefghijklmnopqrst";

    public static void main(String[] args) {
        holesTakeByNumber();
        plainTakesTheLeastBeside();
        greedyTakesTwice();
        greedyWithOneCellLeft();
        blindTakesNone();
        throughTakesTheLeastOfItsColumn();
        throughHasColumnsOfAllItsCells();
        onlyPasteIsTaken();
        noneOfAMonks();
        theTakerPaysAnotherOne();
        nothingIsLeftToTake();
        nothingWeds();
        besideAtFirstTheyWedOnTheDay();
        moreCellsHaveAll();
        ofLikeOnesTheLeast();
        theLeastOneJoinsFirst();
        theLeastOtherOneJoinsFirst();
        joinedOnesCountAsOne();
        fourWeddingsAreTheMost();
        goneByAWedding();
        rentIsAsManyAsCells();
        rentBehindGrowthAndWeddings();
        aMiserPaysHalfCut();
        theDayIsOneMore();
        check.end();
    }

    private static LetHoles lone(int cell, int kind) {
        return Check.dairy("DO0H" + CELLS.charAt(cell) + "0" + kind);
    }

    /** "HOLES by number": by what each pays for, hole 0 at c takes b, then hole 1 at a has to take f. */
    private static void holesTakeByNumber() {
        LetHoles x = Check.dairy("DO0O0O0O0R02R13Hc00Ha10");
        x.day();
        check.dueBalances("hole 0 first", x, -1, -1, 1, 1);
        LetHoles turned = Check.dairy("DO0O0O0O0R02R13Ha10Hc00");
        turned.day();
        check.dueBalances("hole 0 is the other one", turned, -1, -1, 2, 0);
    }

    /** "each once takes the least CELL of PASTE that is BESIDE one of its own". */
    private static void plainTakesTheLeastBeside() {
        int[] least = {1, 0, 1, 2, 3, 0, 1, 2, 3, 4, 5, 6, 7, 8, 9, 10, 11, 12, 13, 14};
        for (int cell = 0; cell < 20; cell++) {
            LetHoles x = lone(cell, 0);
            check.due("plain at " + cell, x.day(), 0);
            check.due("plain at " + cell + " takes", x.count(4), Check.bits(cell, least[cell]));
            check.dueBalances("plain at " + cell, x, -1);
        }
    }

    /** "(GREEDY: twice)": the second time beside what it took the first time, too. */
    private static void greedyTakesTwice() {
        int[] first = {1, 0, 1, 2, 3, 0, 1, 2, 3, 4, 5, 6, 7, 8, 9, 10, 11, 12, 13, 14};
        int[] second = {2, 2, 0, 1, 2, 1, 0, 1, 2, 3, 0, 1, 2, 3, 4, 5, 6, 7, 8, 9};
        for (int cell = 0; cell < 20; cell++) {
            LetHoles x = lone(cell, 1);
            x.day();
            check.due("greedy at " + cell + " takes", x.count(4), Check.bits(cell, first[cell], second[cell]));
            check.dueBalances("greedy at " + cell, x, -2);
        }
    }

    private static void greedyWithOneCellLeft() {
        LetHoles x = lone(0, 1);
        for (int cell = 2; cell < 20; cell++) {
            x.eat(0, cell);
        }
        check.dueBalances("eaten", x, -18);
        x.day();
        check.due("one cell was left", x.count(4), Check.bits(0, 1));
        check.dueBalances("one is paid", x, -19);
        x.day();
        check.due("none was left", x.count(4), Check.bits(0, 1));
        check.dueBalances("none is paid", x, -19);
    }

    /** "BLIND ones not". */
    private static void blindTakesNone() {
        for (int cell = 0; cell < 20; cell++) {
            LetHoles x = lone(cell, 2);
            Check.days(x, 2);
            check.due("blind at " + cell, x.count(4), Check.bits(cell));
            check.dueBalances("blind at " + cell, x, 0);
        }
    }

    /** "(THROUGH: in the COLUMN of it)". */
    private static void throughTakesTheLeastOfItsColumn() {
        int[] least = {5, 6, 7, 8, 9, 0, 1, 2, 3, 4, 0, 1, 2, 3, 4, 0, 1, 2, 3, 4};
        for (int cell = 0; cell < 20; cell++) {
            LetHoles x = lone(cell, 3);
            x.day();
            check.due("through at " + cell, x.count(4), Check.bits(cell, least[cell]));
        }
    }

    private static void throughHasColumnsOfAllItsCells() {
        LetHoles x = Check.dairy("DO0Hk03Hb02");
        check.due("it takes a and weds b", x.day(), 1);
        check.due("it has all", x.hole(0, 3), Check.bits(0, 1, 10));
        x.day();
        check.due("f of its own column", x.hole(0, 3), Check.bits(0, 1, 10, 5));
        x.day();
        check.due("g of the other's", x.hole(0, 3), Check.bits(0, 1, 10, 5, 6));
        Check.days(x, 9);
        check.due("no third column", x.hole(0, 3), Check.bits(0, 1, 5, 6, 10, 11, 15, 16));
    }

    /** "the least CELL of PASTE": what is eaten, and what is of another hole, is none. */
    private static void onlyPasteIsTaken() {
        LetHoles x = Check.dairy("DO0Hg00Hb02");
        x.eat(0, 5);
        x.day();
        check.due("b is of a hole, f is eaten: h", x.count(4), Check.bits(1, 6, 7));
        LetHoles through = Check.dairy("DO0Hp03Ha02");
        through.eat(0, 5);
        through.day();
        check.due("a is of a hole, f is eaten: k", through.hole(0, 3), Check.bits(10, 15));
    }

    /** "but none of a MONK's". */
    private static void noneOfAMonks() {
        LetHoles x = Check.dairy("DO0O1R01Hg00");
        x.day();
        check.due("b is a monk's: f", x.hole(0, 3), Check.bits(6, 5));
        LetHoles own = Check.dairy("DO1R00Hg00");
        own.day();
        check.due("the monk's own hole leaves it, too", own.hole(0, 3), Check.bits(6, 5));
        LetHoles shut = Check.dairy("DO0O1R01R11Ha01");
        shut.day();
        check.due("there is no other paste beside", shut.hole(0, 3), Check.bits(0));
        check.dueBalances("nothing is paid", shut, 0, 0);
        LetHoles through = Check.dairy("DO0O1R01R11R21Ha03");
        Check.days(through, 2);
        check.due("through: p alone is no monk's", through.hole(0, 3), Check.bits(0, 15));
        for (int kind = 0; kind < 4; kind++) {
            LetHoles of = Check.dairy("DO0O" + kind + "R01R11R21R31Hm00");
            of.day();
            check.due("paste of kind " + kind, of.hole(0, 4), kind == 1 ? 1 : 2);
        }
    }

    /** "to the OWNER of that PASTE, if it is another one, its own OWNER pays 1"; nobody's is paid all the same. */
    private static void theTakerPaysAnotherOne() {
        LetHoles own = Check.dairy("DO0O0R00Ha00");
        own.day();
        check.dueBalances("its own paste", own, 0, 0);
        LetHoles others = Check.dairy("DO0O0R01Ha00");
        others.day();
        check.dueBalances("another one's", others, -1, 1);
        LetHoles nobodys = Check.dairy("DO0O0Ha00");
        nobodys.day();
        check.dueBalances("nobody's", nobodys, -1, 0);
        LetHoles both = Check.dairy("DO0O0O0R01R12Hk01");
        both.day();
        check.dueBalances("greedy, of two owners", both, -2, 1, 1);
        LetHoles let = Check.dairy("DO0O0O3R01Hf00");
        let.let(0, 2);
        let.day();
        check.dueBalances("the owner pays for the cell, not who has it let", let, -1 + 1, 1, -1);
        for (int kind = 0; kind < 4; kind++) {
            LetHoles of = Check.dairy("DO" + kind + "O0R01Ha00");
            of.day();
            check.dueBalances("a hole of kind " + kind + " pays", of, -1, 1);
        }
    }

    private static void nothingIsLeftToTake() {
        LetHoles x = Check.dairy("DO0Ha00");
        Check.days(x, 19);
        check.due("all is of it", x.count(4), (1 << 20) - 1);
        check.dueBalances("19 cells", x, -19);
        check.due("a day all the same", x.day(), 0);
        check.due("THE DAY", x.count(3), 20);
        check.dueBalances("nothing more", x, -19);
    }

    /** "two HOLES with CELLS BESIDE one another": corners and ends of rows are not. */
    private static void nothingWeds() {
        for (String apart : new String[] {"Ha02Hg02", "He02Hf02", "Hb02Hf02", "Ho02Hp02", "Ha02Ht02", "Ha02Hc02"}) {
            LetHoles x = Check.dairy("DO0" + apart);
            check.due(apart, x.day(), 0);
            check.due(apart + ": two are left", x.count(6), 3);
        }
    }

    private static void besideAtFirstTheyWedOnTheDay() {
        for (String beside : new String[] {"Ha02Hb02", "Hb02Ha02", "Ha02Hf02", "Ht02Ho02", "Ht02Hs02"}) {
            LetHoles x = Check.dairy("DO0" + beside);
            check.due(beside + ": two at first", x.count(6), 3);
            check.due(beside, x.day(), 1);
            check.due(beside + ": one is left", x.count(6), 1);
            check.due(beside + ": next day", x.day(), 0);
        }
    }

    /** "the one of more CELLS has all of both, the other one is GONE". */
    private static void moreCellsHaveAll() {
        LetHoles x = Check.dairy("DO0O0Ha02Hb10");
        check.due("hole 1 has one more", x.day(), 1);
        check.due("it has all", x.hole(1, 3), Check.bits(0, 1, 2));
        check.due("hole 0 is gone", x.hole(0, 1), Check.NONE);
        check.due("whose are the cells", x.cell(0, 2), 1);
        LetHoles turned = Check.dairy("DO0O0Hb10Ha02");
        turned.day();
        check.due("hole 0 has one more", turned.hole(0, 3), Check.bits(0, 1, 2));
        check.due("hole 1 is gone", turned.hole(1, 4), 0);
    }

    /** "(of like ones the least)". */
    private static void ofLikeOnesTheLeast() {
        LetHoles x = Check.dairy("DO0O0Hb12Ha02");
        x.day();
        check.due("hole 0 has both", x.hole(0, 3), Check.bits(0, 1));
        check.due("hole 1 is gone", x.hole(1, 3), 0);
        LetHoles two = Check.dairy("DO0O0Hb00Hd10");
        two.day();
        check.due("two each", two.hole(0, 3), Check.bits(0, 1, 2, 3));
    }

    /** "of these the least one": 0 joins 1 to two cells, like those of 2; were it 1 and 2 first, 2 would have all. */
    private static void theLeastOneJoinsFirst() {
        LetHoles x = Check.dairy("DO0Ha02Hb02Hd00");
        check.due("two weddings", x.day(), 2);
        check.due("hole 0 has all", x.hole(0, 3), Check.bits(0, 1, 2, 3));
        check.due("one is left", x.count(6), 1);
    }

    /** "and the least other one": 0 is beside 1 and 2; were it 0 and 2 first, 2 would have all. */
    private static void theLeastOtherOneJoinsFirst() {
        LetHoles x = Check.dairy("DO0Hb02Ha02Hd00");
        check.due("two weddings", x.day(), 2);
        check.due("hole 0 has all", x.hole(0, 3), Check.bits(0, 1, 2, 3));
    }

    /** "as long as there are two": 0 and 3 join to 3, that is beside 1 and 2. */
    private static void joinedOnesCountAsOne() {
        LetHoles x = Check.dairy("DO0Ha02Hd02Hh02Hb00");
        // Hole 3 takes c: beside a, d and h.
        check.due("three weddings", x.day(), 3);
        check.due("hole 3 has all", x.hole(3, 3), Check.bits(0, 1, 2, 3, 7));
        check.due("it alone is left", x.count(6), 8);
    }

    /** "HOLES (5 at most)": four weddings leave one. */
    private static void fourWeddingsAreTheMost() {
        LetHoles x = Check.dairy("DO0Ha02Hb02Hc02Hd02He02");
        check.due("ahead of it five", x.count(6), 31);
        check.due("four weddings", x.day(), 4);
        check.due("one is left", x.count(6), 1);
        check.due("its cells", x.hole(0, 3), 31);
        check.due("no more", x.day(), 0);
    }

    /** "What is GONE is nobody's, not LET." */
    private static void goneByAWedding() {
        LetHoles x = Check.dairy("DO0O0O0Ha02Hb10");
        x.let(0, 2);
        x.let(1, 0);
        x.day();
        int[] gone = {2, Check.NONE, Check.NONE, 0, 0};
        for (int what = 0; what < 5; what++) {
            check.due("hole(0, " + what + ")", x.hole(0, what), gone[what]);
        }
        check.due("nobody's", x.owner(0, 3), 0);
        check.due("the other one stays whose it was", x.hole(1, 1), 1);
        check.due("and stays let", x.hole(1, 2), 0);
        check.dueBalances("what is gone pays no rent", x, -3, 3 - 1, 0);
        check.due("it can't be let", x.let(0, 1), Check.STATE);
        check.due("it can't be sold", x.sell(0, 1), Check.STATE);
    }

    /** "who has it pays its OWNER as much as it has CELLS". */
    private static void rentIsAsManyAsCells() {
        LetHoles x = Check.dairy("DO0O0O0Hm02");
        x.day();
        check.dueBalances("not let", x, 0, 0, 0);
        x.let(0, 1);
        x.day();
        check.dueBalances("one cell", x, 1, -1, 0);
        x.let(0, 2);
        x.day();
        check.dueBalances("another one has it", x, 2, -1, -1);
        x.sell(0, 1);
        check.dueBalances("sold", x, 3, -2, -1);
        x.day();
        check.dueBalances("its new owner has the rent", x, 3, -1, -2);
    }

    /** (a), (b), (c) "in this order": rent for what it took and for what it was joined with that day. */
    private static void rentBehindGrowthAndWeddings() {
        LetHoles x = Check.dairy("DO0O0R00Hb00Hd02");
        x.let(0, 1);
        check.due("a wedding? not yet", x.day(), 0);
        check.due("two cells", x.hole(0, 4), 2);
        check.dueBalances("two are paid", x, 2, -2);
        check.due("it takes c and weds d", x.day(), 1);
        check.dueBalances("four are paid", x, 6, -6);
    }

    /** "(a MISER who has it: half of that, cut)". */
    private static void aMiserPaysHalfCut() {
        int[] half = {0, 1, 1, 2, 2, 3};
        LetHoles x = Check.dairy("DO0O3R00R10Ha00");
        x.let(0, 1);
        int paid = 0;
        for (int cells = 2; cells <= 6; cells++) {
            x.day();
            paid += half[cells - 1];
            check.dueBalances(cells + " cells", x, paid, -paid);
        }
        LetHoles one = Check.dairy("DO0O3Hm02");
        one.let(0, 1);
        one.day();
        check.dueBalances("one cell", one, 0, 0);
        for (int kind = 0; kind < 3; kind++) {
            LetHoles other = Check.dairy("DO3O" + kind + "R00Ha00");
            other.let(0, 1);
            other.day();
            check.dueBalances("kind " + kind + " has it, a miser's", other, 2, -2);
        }
    }

    /** "THE DAY is one more." */
    private static void theDayIsOneMore() {
        LetHoles x = new LetHoles();
        for (int days = 1; days <= 30; days++) {
            x.day();
            check.due("THE DAY", x.count(3), days);
        }
    }
}

/** Promises 10 to 13: eaten, let, sold, undone; each sentence that names an edge has its test. */
public final class EdgesOfDealsTest {
    private static final Check check = new Check();

    public static void main(String[] args) {
        firstAndLastCellAreEaten();
        eatenOnce();
        ownPasteCostsNothing();
        anotherOnesPasteCostsOne();
        nobodysPasteCostsOneToo();
        aGleanerPaysNothingForPaste();
        aGleanerPaysForHoles();
        noOtherKindGleans();
        holesAreEatenFromTheirOwner();
        lastCellEatenTheHoleIsGone();
        aMonksPasteIsEaten();
        whoEatsAndWhatMustBeKnown();
        letAtFirstAndAnew();
        letIsFree();
        letIsRefused();
        soldForItsCells();
        everyKindPaysAllOfIt();
        soldToWhoHasIt();
        soldWhileAThirdHasIt();
        sellIsRefused();
        eachActIsInTheRow();
        noOtherCallIsAnAct();
        fourteenActsAtMost();
        theFirstIsForgotten();
        undoneOneByOne();
        undoOfNone();
        goesOnBehindUndo();
        check.end();
    }

    /** Promise 10: "EATEN: whose it was; NONE." */
    private static void firstAndLastCellAreEaten() {
        LetHoles x = Check.dairy("DO0O0R00R31");
        check.due("cell 0", x.eat(1, 0), 0);
        check.due("cell 19", x.eat(0, 19), 1);
        check.due("eaten", x.count(5), Check.bits(0, 19));
        check.due("nobody's", x.eat(0, 9), Check.NONE);
    }

    /** "an OWNER eats a CELL that is not EATEN"; "STATE: it is EATEN". */
    private static void eatenOnce() {
        LetHoles x = Check.dairy("DO0O0");
        for (int cell = 0; cell < 20; cell++) {
            check.due("cell " + cell, x.eat(0, cell), Check.NONE);
            check.due("again", x.eat(0, cell), Check.STATE);
            check.due("by the other one", x.eat(1, cell), Check.STATE);
        }
        check.dueBalances("paid once each", x, -20, 0);
    }

    /** "it pays 1 to whose it was, if that is another one". */
    private static void ownPasteCostsNothing() {
        LetHoles x = Check.dairy("DO0O0R00Ht00");
        check.due("own paste", x.eat(0, 4), 0);
        check.due("own hole", x.eat(0, 19), 0);
        check.dueBalances("nothing", x, 0, 0);
    }

    private static void anotherOnesPasteCostsOne() {
        LetHoles x = Check.dairy("DO0O0R01Ht10");
        check.due("paste", x.eat(0, 4), 1);
        check.dueBalances("one", x, -1, 1);
        check.due("hole", x.eat(0, 19), 1);
        check.dueBalances("two", x, -2, 2);
    }

    /** "What nobody has is paid to nobody, and counts for the payer all the same." */
    private static void nobodysPasteCostsOneToo() {
        LetHoles x = Check.dairy("DO0O0R11");
        check.due("nobody's", x.eat(0, 4), Check.NONE);
        check.dueBalances("one", x, -1, 0);
    }

    /** "(a GLEANER pays nothing for PASTE)": another one's, nobody's, a monk's. */
    private static void aGleanerPaysNothingForPaste() {
        LetHoles x = Check.dairy("DO2O0O1R01R12");
        check.due("another one's", x.eat(0, 0), 1);
        check.due("a monk's", x.eat(0, 5), 2);
        check.due("nobody's", x.eat(0, 10), Check.NONE);
        check.dueBalances("nothing", x, 0, 0, 0);
    }

    private static void aGleanerPaysForHoles() {
        LetHoles x = Check.dairy("DO2O0R01Ha12");
        check.due("a hole in that row", x.eat(0, 0), 1);
        check.dueBalances("one", x, -1, 1);
    }

    private static void noOtherKindGleans() {
        for (int kind = 0; kind < 4; kind++) {
            LetHoles x = Check.dairy("DO" + kind + "O2R01");
            x.eat(0, 0);
            int paid = kind == 2 ? 0 : 1;
            check.dueBalances("kind " + kind, x, -paid, paid);
        }
    }

    /** Whose a hole's cell is: the hole's owner, neither its row's nor who has it let. */
    private static void holesAreEatenFromTheirOwner() {
        LetHoles x = Check.dairy("DO0O0O0R00Ha10");
        x.let(0, 2);
        x.day();
        check.dueBalances("grown and let", x, 1, -1 + 2, -2);
        check.due("by the row's owner", x.eat(0, 0), 1);
        check.dueBalances("it pays the hole's", x, 0, 2, -2);
        check.due("by who has it let", x.eat(2, 1), 1);
        check.dueBalances("it pays, too", x, 0, 3, -3);
    }

    /** "it is GONE, if there are none"; "What is GONE is nobody's, not LET." */
    private static void lastCellEatenTheHoleIsGone() {
        LetHoles x = Check.dairy("DO0O0Ha00");
        x.let(0, 1);
        x.day();
        x.eat(0, 0);
        check.due("one cell is left", x.hole(0, 1), 0);
        check.due("it is let", x.hole(0, 2), 1);
        x.eat(0, 1);
        check.due("gone: whose", x.hole(0, 1), Check.NONE);
        check.due("gone: let", x.hole(0, 2), Check.NONE);
        check.due("gone: left", x.count(6), 0);
        x.day();
        check.dueBalances("gone: no rent", x, -1 + 2, -2);
    }

    private static void aMonksPasteIsEaten() {
        LetHoles x = Check.dairy("DO0O1R01");
        check.due("a monk's", x.eat(0, 0), 1);
        check.dueBalances("it is paid", x, -1, 1);
        check.due("its own", x.eat(1, 1), 1);
        check.dueBalances("it is not", x, -1, 1);
    }

    /** "UNKNOWN: owner, cell; STATE". */
    private static void whoEatsAndWhatMustBeKnown() {
        LetHoles x = Check.dairy("DO0O0");
        x.eat(1, 19);
        check.due("the last owner, the last cell", x.count(5), Check.bits(19));
        check.due("owner 2", x.eat(2, 0), Check.UNKNOWN);
        check.due("owner -1", x.eat(-1, 0), Check.UNKNOWN);
        check.due("cell 20", x.eat(0, 20), Check.UNKNOWN);
        check.due("cell -1", x.eat(0, -1), Check.UNKNOWN);
        check.due("owner 2, an eaten cell", x.eat(2, 19), Check.UNKNOWN);
        check.due("acts", x.count(7), 1);
    }

    /** Promise 11: "LET: who had it; NONE"; "(one that had it has it no more)". */
    private static void letAtFirstAndAnew() {
        LetHoles x = Check.dairy("DO0O0O0O0Ha00Ht32");
        check.due("to 1", x.let(0, 1), Check.NONE);
        check.due("to 3", x.let(0, 3), 1);
        check.due("to 2", x.let(0, 2), 3);
        check.due("to 1 again", x.let(0, 1), 2);
        check.due("who has it", x.hole(0, 2), 1);
        check.due("the other hole", x.hole(1, 2), Check.NONE);
        check.due("the last hole to the first owner", x.let(1, 0), Check.NONE);
    }

    private static void letIsFree() {
        LetHoles x = Check.dairy("DO0O0Ha00");
        x.let(0, 1);
        check.dueBalances("no day, no rent", x, 0, 0);
        check.due("whose it is", x.hole(0, 1), 0);
        check.due("its cells are its owner's", x.cell(0, 2), 0);
    }

    /** "UNKNOWN: hole, owner; STATE: it is GONE, that OWNER's own, or LET to it." */
    private static void letIsRefused() {
        LetHoles x = Check.dairy("DO0O0Ha02Ht12");
        check.due("hole 2", x.let(2, 0), Check.UNKNOWN);
        check.due("owner 2", x.let(0, 2), Check.UNKNOWN);
        check.due("its own", x.let(0, 0), Check.STATE);
        check.due("the other's own", x.let(1, 1), Check.STATE);
        x.let(0, 1);
        check.due("let to it", x.let(0, 1), Check.STATE);
        x.eat(0, 19);
        check.due("gone, to who had it", x.let(1, 1), Check.STATE);
        check.due("gone, to another one", x.let(1, 0), Check.STATE);
        check.due("gone, to none that is", x.let(1, 2), Check.UNKNOWN);
        check.due("acts", x.count(7), 2);
    }

    /** Promise 12: "SOLD: how many CELLS it has"; "which pays as much as it has CELLS to the one it was of". */
    private static void soldForItsCells() {
        LetHoles x = Check.dairy("DO0O0R00R10R20R30Ha00");
        check.due("one cell", x.sell(0, 1), 1);
        check.dueBalances("one", x, 1, -1);
        check.due("back", x.sell(0, 0), 1);
        check.dueBalances("back", x, 0, 0);
        Check.days(x, 19);
        check.due("all cells", x.sell(0, 1), 20);
        check.dueBalances("all", x, 20, -20);
        check.due("whose", x.hole(0, 1), 1);
    }

    private static void everyKindPaysAllOfIt() {
        for (int kind = 0; kind < 4; kind++) {
            LetHoles x = Check.dairy("DO0O" + kind + "R00Ha01");
            x.day();
            check.due("to kind " + kind, x.sell(0, 1), 3);
            check.dueBalances("of kind " + kind, x, 3, -3);
        }
    }

    /** "(if it was LET to that one, it is so no more)". */
    private static void soldToWhoHasIt() {
        LetHoles x = Check.dairy("DO0O0Ha02");
        x.let(0, 1);
        x.sell(0, 1);
        check.due("let no more", x.hole(0, 2), Check.NONE);
        check.dueBalances("sold", x, 1, -1);
        x.day();
        check.dueBalances("no rent", x, 1, -1);
        check.due("it can be let to who sold it", x.let(0, 0), Check.NONE);
    }

    private static void soldWhileAThirdHasIt() {
        LetHoles x = Check.dairy("DO0O0O0Ha02");
        x.let(0, 1);
        x.sell(0, 2);
        check.due("let still", x.hole(0, 2), 1);
        x.day();
        check.dueBalances("rent to its new owner", x, 1, -1, -1 + 1);
    }

    /** "UNKNOWN: hole, owner; STATE: it is GONE, or that OWNER's own." */
    private static void sellIsRefused() {
        LetHoles x = Check.dairy("DO0O0Ha02Ht12");
        check.due("hole 2", x.sell(2, 0), Check.UNKNOWN);
        check.due("owner 2", x.sell(0, 2), Check.UNKNOWN);
        check.due("its own", x.sell(0, 0), Check.STATE);
        check.due("the other's own", x.sell(1, 1), Check.STATE);
        x.eat(0, 19);
        check.due("gone, to whose it was", x.sell(1, 1), Check.STATE);
        check.due("gone, to another one", x.sell(1, 0), Check.STATE);
        check.due("gone, to none that is", x.sell(1, 2), Check.UNKNOWN);
        check.due("acts", x.count(7), 1);
    }

    /** "ACTS (DAYS, EATEN, LET, SOLD) are a row". */
    private static void eachActIsInTheRow() {
        LetHoles x = Check.dairy("DO0O0Ha02");
        x.day();
        check.due("a day", x.count(7), 1);
        x.eat(0, 19);
        check.due("eaten", x.count(7), 2);
        x.let(0, 1);
        check.due("let", x.count(7), 3);
        x.sell(0, 1);
        check.due("sold", x.count(7), 4);
    }

    private static void noOtherCallIsAnAct() {
        LetHoles x = Check.dairy("DO0O0Ha02Ht10");
        x.taste(0, 0, 1);
        x.rinse();
        x.seed(1L);
        x.years(30);
        x.keep(0);
        x.write('D');
        x.wipe();
        x.judge(3, 100120010000L);
        x.ahead(20, 0);
        x.wedding(0, 1);
        check.due("acts", x.count(7), 0);
        check.due("undo", x.undo(), Check.STATE);
    }

    /** "(14 at most; of more the first one is forgotten)". */
    private static void fourteenActsAtMost() {
        LetHoles x = new LetHoles();
        for (int acts = 1; acts <= 30; acts++) {
            x.day();
            check.due("behind " + acts, x.count(7), Math.min(14, acts));
        }
    }

    private static void theFirstIsForgotten() {
        for (int acts = 13; acts <= 29; acts++) {
            LetHoles x = Check.dairy("DO0");
            for (int i = 0; i < acts; i++) {
                if (i < 20) {
                    x.eat(0, i);
                } else {
                    x.day();
                }
            }
            int undone = 0;
            while (x.undo() != Check.STATE) {
                undone++;
            }
            check.due("undone of " + acts, undone, Math.min(14, acts));
            check.due("eaten still, of " + acts, x.count(5), (1 << Math.min(20, Math.max(0, acts - 14))) - 1);
        }
    }

    /** Promise 13: "The last ACT is undone: how many are left." */
    private static void undoneOneByOne() {
        LetHoles x = Check.dairy("DO0O0Ha00");
        x.eat(0, 19);
        x.let(0, 1);
        x.sell(0, 1);
        x.day();
        check.due("the day", x.undo(), 3);
        check.due("THE DAY", x.count(3), 0);
        check.due("its cells", x.count(4), 1);
        check.due("sold", x.undo(), 2);
        check.due("whose", x.hole(0, 1), 0);
        check.due("let still", x.hole(0, 2), 1);
        check.due("let", x.undo(), 1);
        check.due("not let", x.hole(0, 2), Check.NONE);
        check.due("eaten still", x.count(5), Check.bits(19));
        check.due("eaten", x.undo(), 0);
        check.due("nothing is eaten", x.count(5), 0);
        check.dueBalances("as at first", x, 0, 0);
    }

    /** "STATE: there is none." */
    private static void undoOfNone() {
        LetHoles x = Check.dairy("DO0Ha00");
        check.due("of none", x.undo(), Check.STATE);
        x.eat(0, 20);
        check.due("of one that was refused", x.undo(), Check.STATE);
        x.day();
        check.due("of one", x.undo(), 0);
        check.due("of no more", x.undo(), Check.STATE);
        check.due("still of no more", x.undo(), Check.STATE);
    }

    private static void goesOnBehindUndo() {
        LetHoles x = Check.dairy("DO0");
        Check.days(x, 14);
        x.undo();
        x.undo();
        check.due("twelve are left", x.count(7), 12);
        x.eat(0, 0);
        x.eat(0, 1);
        x.eat(0, 2);
        check.due("fourteen again", x.count(7), 14);
        check.due("undone", x.undo(), 13);
        check.due("the last one", x.count(5), Check.bits(0, 1));
        check.due("THE DAY", x.count(3), 12);
        for (int left = 12; left >= 0; left--) {
            check.due("undone", x.undo(), left);
        }
        check.due("the first day is forgotten", x.count(3), 1);
    }
}

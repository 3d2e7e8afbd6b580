/** Promises 6 to 8 and 30, and what ==== 1 tells of the wheel: each sentence that names an edge has its test. */
public final class EdgesOfWheelTest {
    private static final Check check = new Check();
    private static final String CELLS = "abcdefghijklmnopqrst";

    public static void main(String[] args) {
        ownersAreNumberedAsTold();
        holesAreNumberedAsTold();
        rowsAreOfFiveCells();
        columnsAreWhatIsLeftByFive();
        cellsAreBesideIfTheyShareASide();
        pasteOfRowsNotToldIsNobodys();
        lastOwnerAndFirstThatIsNone();
        kindOfOwner();
        balanceOfOwner();
        rowsOfOwner();
        holesOfOwner();
        cellsOfOwner();
        whatOfOwnerIs0To4();
        lastHoleAndFirstThatIsNone();
        holeOfOneCellAndOfAll();
        holeThatIsGone();
        whatOfHoleIs0To4();
        cellsAre0To19();
        cellIsPasteOrOfHoleOrEaten();
        whatOfCellIs0To2();
        countsOfEmptyAndFull();
        whatOfCountIs0To8();
        check.end();
    }

    /** "OWNERS, HOLES are numbered as they are told, each for itself". */
    private static void ownersAreNumberedAsTold() {
        LetHoles x = Check.dairy("DO3Ha00O2R10O1Hb20O0R23");
        int[] kinds = {3, 2, 1, 0};
        for (int owner = 0; owner < 4; owner++) {
            check.due("kind of " + owner, x.owner(owner, 0), kinds[owner]);
        }
        check.due("row 1", x.cell(5, 2), 0);
        check.due("row 2", x.cell(10, 2), 3);
    }

    private static void holesAreNumberedAsTold() {
        LetHoles x = Check.dairy("DO0Ht03O0Ha12Hj01He10Hp02");
        int[] cells = {19, 0, 9, 4, 15};
        int[] owners = {0, 1, 0, 1, 0};
        int[] kinds = {3, 2, 1, 0, 2};
        for (int hole = 0; hole < 5; hole++) {
            check.due("cell of " + hole, x.hole(hole, 3), 1 << cells[hole]);
            check.due("hole of its cell", x.cell(cells[hole], 1), hole);
            check.due("owner of " + hole, x.hole(hole, 1), owners[hole]);
            check.due("kind of " + hole, x.hole(hole, 0), kinds[hole]);
        }
    }

    /** "in 4 ROWS of 5: 0 to 4, 5 to 9, 10 to 14, 15 to 19". */
    private static void rowsAreOfFiveCells() {
        LetHoles x = Check.dairy("DO0O0O0O0R00R11R22R33");
        int[] rows = {0, 0, 0, 0, 0, 1, 1, 1, 1, 1, 2, 2, 2, 2, 2, 3, 3, 3, 3, 3};
        for (int cell = 0; cell < 20; cell++) {
            check.due("whose is " + cell, x.cell(cell, 2), rows[cell]);
        }
    }

    /** "its COLUMN is what is left of a CELL by 5": a THROUGH hole comes to have just these. */
    private static void columnsAreWhatIsLeftByFive() {
        int[][] columns = {{0, 5, 10, 15}, {1, 6, 11, 16}, {2, 7, 12, 17}, {3, 8, 13, 18}, {4, 9, 14, 19}};
        for (int[] column : columns) {
            for (int cell : column) {
                LetHoles x = Check.dairy("DO0H" + CELLS.charAt(cell) + "03");
                Check.days(x, 5);
                check.due("column of " + cell, x.count(4), Check.bits(column));
            }
        }
    }

    /** "Two CELLS are BESIDE, if they share a side." */
    private static void cellsAreBesideIfTheyShareASide() {
        String[] beside = {"1 5", "0 2 6", "1 3 7", "2 4 8", "3 9", "0 6 10", "1 5 7 11", "2 6 8 12", "3 7 9 13",
            "4 8 14", "5 11 15", "6 10 12 16", "7 11 13 17", "8 12 14 18", "9 13 19", "10 16", "11 15 17",
            "12 16 18", "13 17 19", "14 18"};
        for (int cell = 0; cell < 20; cell++) {
            LetHoles x = Check.dairy("DO0");
            for (int each = 0; each < 20; each++) {
                x.eat(0, each);
            }
            for (int other = 0; other < 20; other++) {
                boolean is = (" " + beside[cell] + " ").contains(" " + other + " ");
                check.due(cell + " and " + other, x.way(cell, other) == 1 ? 1 : 0, is ? 1 : 0);
            }
        }
    }

    /** "the PASTE of a ROW that is not told is nobody's". */
    private static void pasteOfRowsNotToldIsNobodys() {
        for (int told = 0; told < 4; told++) {
            LetHoles x = Check.dairy("DO0R" + told + "0");
            for (int cell = 0; cell < 20; cell++) {
                check.due("row " + told + " told: " + cell, x.cell(cell, 2), cell / 5 == told ? 0 : Check.NONE);
            }
        }
    }

    /** Promise 6: "UNKNOWN". */
    private static void lastOwnerAndFirstThatIsNone() {
        String text = "D";
        for (int owners = 0; owners <= 4; owners++) {
            LetHoles x = Check.dairy(text);
            for (int what = 0; what < 5; what++) {
                check.due(owners + " owners: the first that is none", x.owner(owners, what), Check.UNKNOWN);
                check.due(owners + " owners: -1", x.owner(-1, what), Check.UNKNOWN);
            }
            if (owners > 0) {
                check.due(owners + " owners: the last", x.owner(owners - 1, 0), owners % 4);
            }
            text += "O" + (owners + 1) % 4;
        }
    }

    private static void kindOfOwner() {
        LetHoles x = Check.dairy("DO0O1O2O3");
        for (int owner = 0; owner < 4; owner++) {
            check.due("kind of " + owner, x.owner(owner, 0), owner);
        }
    }

    /** BALANCE: 0 at first, below 0, above 0. */
    private static void balanceOfOwner() {
        LetHoles x = Check.dairy("DO0O0R01");
        check.dueBalances("at first", x, 0, 0);
        x.eat(0, 0);
        check.dueBalances("behind one cell", x, -1, 1);
        x.eat(0, 4);
        check.dueBalances("behind two", x, -2, 2);
    }

    /** "ROWS whose PASTE is its own (2: bits)": none, each, all. */
    private static void rowsOfOwner() {
        check.due("none", Check.dairy("DO0O0R00").owner(1, 2), 0);
        for (int row = 0; row < 4; row++) {
            check.due("row " + row, Check.dairy("DO0O0R" + row + "1").owner(1, 2), 1 << row);
            check.due("of the other one", Check.dairy("DO0O0R" + row + "1").owner(0, 2), 0);
        }
        check.due("all", Check.dairy("DO0R00R10R20R30").owner(0, 2), 15);
    }

    /** "HOLES that are its own (3: bits)": none, each, all. */
    private static void holesOfOwner() {
        check.due("none", Check.dairy("DO0O0Ha00").owner(1, 3), 0);
        LetHoles x = Check.dairy("DO0O0Ha12Hc12He12Hk12Ht12");
        check.due("all", x.owner(1, 3), 31);
        for (int hole = 0; hole < 5; hole++) {
            x.sell(hole, 0);
            check.due("sold up to " + hole, x.owner(0, 3), (2 << hole) - 1);
            check.due("left behind " + hole, x.owner(1, 3), 31 - ((2 << hole) - 1));
        }
        x.eat(0, 19);
        check.due("the last is gone", x.owner(0, 3), 15);
        x.let(0, 1);
        check.due("let is not sold", x.owner(0, 3), 15);
        check.due("nor the other one's", x.owner(1, 3), 0);
    }

    /** "how many CELLS it owns (4)": none, all; what is eaten is nobody's. */
    private static void cellsOfOwner() {
        check.due("none", Check.dairy("DO0O0R00R10R20R30").owner(1, 4), 0);
        LetHoles x = Check.dairy("DO0O0R00R10R20R30Ha10");
        check.due("all but a hole", x.owner(0, 4), 19);
        check.due("the hole", x.owner(1, 4), 1);
        x.sell(0, 0);
        check.due("all", x.owner(0, 4), 20);
        for (int cell = 19; cell >= 0; cell--) {
            x.eat(1, cell);
            check.due("eaten down to " + cell, x.owner(0, 4), cell);
        }
    }

    private static void whatOfOwnerIs0To4() {
        LetHoles x = Check.dairy("DO0");
        for (int what = 0; what <= 4; what++) {
            check.due("owner(0, " + what + ")", x.owner(0, what), 0);
        }
        check.due("owner(0, -1)", x.owner(0, -1), Check.OUTSIDE);
        check.due("owner(0, 5)", x.owner(0, 5), Check.OUTSIDE);
    }

    /** Promise 7: "UNKNOWN". */
    private static void lastHoleAndFirstThatIsNone() {
        String text = "DO0";
        for (int holes = 0; holes <= 5; holes++) {
            LetHoles x = Check.dairy(text);
            for (int what = 0; what < 5; what++) {
                check.due(holes + " holes: the first that is none", x.hole(holes, what), Check.UNKNOWN);
                check.due(holes + " holes: -1", x.hole(-1, what), Check.UNKNOWN);
            }
            if (holes > 0) {
                check.due(holes + " holes: the last", x.hole(holes - 1, 3), 1 << (holes - 1));
            }
            text += "H" + CELLS.charAt(holes) + "02";
        }
    }

    /** "its CELLS (3: bits), how many (4)". */
    private static void holeOfOneCellAndOfAll() {
        LetHoles x = Check.dairy("DO0Ha00");
        for (int days = 0; days < 22; days++) {
            check.due("cells behind " + days, x.hole(0, 4), Math.min(20, days + 1));
            check.due("as bits", x.hole(0, 3), (1 << Math.min(20, days + 1)) - 1);
            x.day();
        }
    }

    /** "A HOLE is all CELLS that are of it; it is GONE, if there are none"; "whose it is (1; NONE: GONE)". */
    private static void holeThatIsGone() {
        LetHoles x = Check.dairy("DO0O0Hc11");
        x.let(0, 0);
        x.day();
        check.due("three cells", x.hole(0, 3), Check.bits(0, 1, 2));
        x.eat(0, 1);
        check.due("in two pieces it is one", x.hole(0, 3), Check.bits(0, 2));
        x.eat(0, 0);
        check.due("with one cell it is not gone", x.hole(0, 1), 1);
        check.due("and still let", x.hole(0, 2), 0);
        x.eat(0, 2);
        int[] gone = {1, Check.NONE, Check.NONE, 0, 0};
        for (int what = 0; what < 5; what++) {
            check.due("gone: hole(0, " + what + ")", x.hole(0, what), gone[what]);
        }
        check.due("gone: no hole is left", x.count(6), 0);
        check.due("gone: it is told all the same", x.count(2), 1);
        check.due("gone: nobody's", x.owner(1, 3), 0);
        x.day();
        check.due("gone: it grows no more", x.count(4), 0);
    }

    private static void whatOfHoleIs0To4() {
        LetHoles x = Check.dairy("DO0Hb03");
        int[] due = {3, 0, Check.NONE, 2, 1};
        for (int what = 0; what <= 4; what++) {
            check.due("hole(0, " + what + ")", x.hole(0, what), due[what]);
        }
        check.due("hole(0, -1)", x.hole(0, -1), Check.OUTSIDE);
        check.due("hole(0, 5)", x.hole(0, 5), Check.OUTSIDE);
    }

    /** "A WHEEL has 20 CELLS"; promise 8: "UNKNOWN". */
    private static void cellsAre0To19() {
        LetHoles x = Check.dairy("DO0R00R30");
        check.due("cell(0, 2)", x.cell(0, 2), 0);
        check.due("cell(19, 2)", x.cell(19, 2), 0);
        for (int what = -1; what < 4; what++) {
            check.due("cell(-1, " + what + ")", x.cell(-1, what), Check.UNKNOWN);
            check.due("cell(20, " + what + ")", x.cell(20, what), Check.UNKNOWN);
        }
    }

    /** "A CELL is of a HOLE, or EATEN, or PASTE of its ROW's OWNER." */
    private static void cellIsPasteOrOfHoleOrEaten() {
        LetHoles x = Check.dairy("DO0O0R01R11R21R31He02");
        x.eat(0, 19);
        int[][] due = {{0, 0, Check.NONE, 1}, {4, 1, 0, 0}, {19, 2, Check.NONE, Check.NONE}};
        for (int[] row : due) {
            for (int what = 0; what < 3; what++) {
                check.due("cell(" + row[0] + ", " + what + ")", x.cell(row[0], what), row[1 + what]);
            }
        }
        x.eat(1, 4);
        check.due("of a hole, eaten: what it is", x.cell(4, 0), 2);
        check.due("of a hole, eaten: of none", x.cell(4, 1), Check.NONE);
        check.due("of a hole, eaten: nobody's", x.cell(4, 2), Check.NONE);
    }

    private static void whatOfCellIs0To2() {
        LetHoles x = Check.dairy("DO0Ha00");
        for (int what = 0; what < 3; what++) {
            check.due("cell(0, " + what + ")", x.cell(0, what), what == 0 ? 1 : 0);
        }
        check.due("cell(0, -1)", x.cell(0, -1), Check.OUTSIDE);
        check.due("cell(0, 3)", x.cell(0, 3), Check.OUTSIDE);
        check.due("cell(19, 3)", x.cell(19, 3), Check.OUTSIDE);
    }

    /** Promise 30: each count when there is none, and when it is full. */
    private static void countsOfEmptyAndFull() {
        LetHoles x = Dairies.full();
        int[] full = {48, 4, 5, 1, Check.bits(0, 5, 7, 12, 14, 15, 18, 19), Check.bits(1, 2, 4, 9, 13), 29, 14, 6};
        LetHoles none = new LetHoles();
        for (int what = 0; what < 9; what++) {
            check.due("full: count(" + what + ")", x.count(what), full[what]);
            check.due("new: count(" + what + ")", none.count(what), 0);
        }
        LetHoles eaten = Check.dairy("DO0Ha00");
        for (int cell = 0; cell < 20; cell++) {
            eaten.eat(0, cell);
        }
        check.due("all eaten", eaten.count(5), (1 << 20) - 1);
        check.due("all eaten: none of holes", eaten.count(4), 0);
        LetHoles all = Check.dairy("DO0Hm01");
        Check.days(all, 20);
        check.due("all of a hole", all.count(4), (1 << 20) - 1);
        check.due("all of a hole: one is left", all.count(6), 1);
        check.due("all of a hole: THE DAY", all.count(3), 20);
    }

    private static void whatOfCountIs0To8() {
        LetHoles x = new LetHoles();
        check.due("count(-1)", x.count(-1), Check.OUTSIDE);
        check.due("count(0)", x.count(0), 0);
        check.due("count(8)", x.count(8), 0);
        check.due("count(9)", x.count(9), Check.OUTSIDE);
    }
}

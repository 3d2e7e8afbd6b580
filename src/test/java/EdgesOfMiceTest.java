/** Promises 14 to 19, ==== 2: each sentence that names an edge has a test of its own. */
public final class EdgesOfMiceTest {
    private static final Check check = new Check();

    public static void main(String[] args) {
        wayToTheSameIsNone();
        wayByNoPaste();
        wayNeedsBothEnds();
        wayIsTheFewest();
        wayOfTheMostSteps();
        wayByHolesOfAllAndEaten();
        gnawToTheSame();
        gnawCountsBothEnds();
        gnawOfNoneAndOfAll();
        gnawNoneOfAMonks();
        gnawIsTheFewestNotTheShortest();
        weddingIn1To17Days();
        weddingOfOneThatIsGone();
        weddingNever();
        weddingIsWhenOneOfBothIsGone();
        weddingIfNothingElseIsDone();
        aheadInNoDays();
        aheadIn20Days();
        aheadTellsHolesThatAreNotGone();
        aheadTellsPaste();
        cutByColumns1To4();
        cutOfLikeOnesTheLeast();
        cutCountsPasteAndHoles();
        cutOfNothing();
        check.end();
    }

    private static LetHoles eaten(String text, int... cells) {
        LetHoles x = Check.dairy(text);
        for (int cell : cells) {
            x.eat(0, cell);
        }
        return x;
    }

    /** "0 to the same": of paste, of a hole, eaten. */
    private static void wayToTheSameIsNone() {
        LetHoles x = eaten("DO0O1R01Hf00", 19);
        for (int cell = 0; cell < 20; cell++) {
            check.due("way(" + cell + ", the same)", x.way(cell, cell), 0);
        }
    }

    /** "the fewest steps BESIDE, by CELLS that are no PASTE"; "NONE". */
    private static void wayByNoPaste() {
        LetHoles x = eaten("DO0", 0, 2);
        check.due("one of paste between", x.way(0, 2), Check.NONE);
        x.eat(0, 1);
        check.due("none of paste between", x.way(0, 2), 2);
        LetHoles corner = eaten("DO0", 0, 6);
        check.due("corners", corner.way(0, 6), Check.NONE);
        LetHoles ends = eaten("DO0", 4, 5);
        check.due("ends of rows", ends.way(4, 5), Check.NONE);
        check.due("ends of rows, back", ends.way(5, 4), Check.NONE);
        LetHoles far = eaten("DO0", 0, 19);
        check.due("first and last", far.way(0, 19), Check.NONE);
    }

    /** "(both, too)". */
    private static void wayNeedsBothEnds() {
        LetHoles x = eaten("DO0", 1);
        check.due("from paste", x.way(0, 1), Check.NONE);
        check.due("to paste", x.way(1, 0), Check.NONE);
        check.due("both of paste", x.way(0, 5), Check.NONE);
        x.eat(0, 0);
        check.due("neither of paste", x.way(0, 1), 1);
    }

    private static void wayIsTheFewest() {
        LetHoles x = eaten("DO0", 0, 5, 10, 11, 12, 7, 2);
        check.due("the one way", x.way(0, 2), 6);
        x.eat(0, 6);
        check.due("a shorter one", x.way(0, 2), 4);
        x.eat(0, 1);
        check.due("the shortest", x.way(0, 2), 2);
    }

    private static void wayOfTheMostSteps() {
        LetHoles x = eaten("DO0", 0, 1, 2, 3, 4, 9, 14, 13, 12, 11, 10, 15, 16, 17, 18, 19);
        check.due("from 0 to 10", x.way(0, 10), 10);
        LetHoles bent = eaten("DO0", 15, 10, 5, 0, 1, 2, 7, 12, 17, 18, 19, 14, 9, 4);
        check.due("by all of them", bent.way(15, 4), 13);
        check.due("and back", bent.way(4, 15), 13);
    }

    private static void wayByHolesOfAllAndEaten() {
        LetHoles x = Check.dairy("DO0O0Ha02Hb12Hc02Hd12He02");
        check.due("by five holes", x.way(0, 4), 4);
        x.eat(0, 2);
        check.due("one of them eaten", x.way(0, 4), 4);
        LetHoles all = Check.dairy("DO0Ha01");
        Check.days(all, 10);
        check.due("all is of a hole", all.way(0, 19), 7);
    }

    /** GNAW: "0 to the same". */
    private static void gnawToTheSame() {
        LetHoles x = eaten("DO0O1R01Hf00", 19);
        for (int cell = 0; cell < 20; cell++) {
            check.due("gnaw(" + cell + ", the same)", x.gnaw(cell, cell), 0);
        }
    }

    /** "(both ends, too)". */
    private static void gnawCountsBothEnds() {
        LetHoles x = eaten("DO0");
        check.due("both of paste", x.gnaw(0, 1), 2);
        x.eat(0, 0);
        check.due("the other one of paste", x.gnaw(0, 1), 1);
        check.due("the one of paste", x.gnaw(1, 0), 1);
        x.eat(0, 1);
        check.due("none of paste", x.gnaw(0, 1), 0);
    }

    private static void gnawOfNoneAndOfAll() {
        LetHoles none = eaten("DO0", 0, 1, 2, 3, 4, 9, 14, 19);
        check.due("none", none.gnaw(0, 19), 0);
        LetHoles all = new LetHoles();
        check.due("all of a way", all.gnaw(0, 19), 8);
        check.due("and back", all.gnaw(19, 0), 8);
        check.due("from end to end of a row", all.gnaw(4, 5), 6);
    }

    /** "(none of a MONK's)"; "NONE". */
    private static void gnawNoneOfAMonks() {
        LetHoles x = Check.dairy("DO0O1R11Ht00");
        check.due("a monk's row between", x.gnaw(0, 10), Check.NONE);
        check.due("from a monk's", x.gnaw(5, 0), Check.NONE);
        check.due("to a monk's", x.gnaw(0, 5), Check.NONE);
        check.due("from a monk's to a monk's", x.gnaw(5, 6), Check.NONE);
        check.due("above it", x.gnaw(0, 4), 5);
        x.eat(0, 7);
        check.due("a gap in it", x.gnaw(0, 10), 3 + 3);
        check.due("to the gap", x.gnaw(2, 7), 1);
        LetHoles hole = Check.dairy("DO1R10Hh02");
        check.due("a hole in it is no paste", hole.gnaw(2, 12), 2);
    }

    private static void gnawIsTheFewestNotTheShortest() {
        LetHoles x = eaten("DO0", 0, 5, 10, 15, 16, 17, 18, 19, 14, 9, 4);
        check.due("the long way is free", x.gnaw(0, 4), 0);
        LetHoles gap = eaten("DO0", 0, 5, 10, 15, 16, 18, 19, 14, 9, 4);
        check.due("one of the long way", gap.gnaw(0, 4), 1);
        LetHoles two = eaten("DO0", 0, 5, 10, 15, 18, 19, 14, 9, 4);
        check.due("two of the long way", two.gnaw(0, 4), 2);
        LetHoles three = eaten("DO0", 0, 4);
        check.due("three of the short way", three.gnaw(0, 4), 3);
    }

    /** "in how many DAYS (1 to 20) one of both is GONE": 17 is the most that a wheel of 20 cells can have. */
    private static void weddingIn1To17Days() {
        String[] blind = {"Hb02", "Hd02", "He02"};
        int[] days = {1, 2, 3};
        for (int i = 0; i < blind.length; i++) {
            LetHoles x = Check.dairy("DO0Ha00" + blind[i]);
            check.due(blind[i], x.wedding(0, 1), days[i]);
            check.due(blind[i] + ", the other way", x.wedding(1, 0), days[i]);
        }
        check.due("at the last row's end", Check.dairy("DO0Ha00Ht02").wedding(0, 1), 14);
        LetHoles late = eaten("DO0Ha00Ht02", 14);
        check.due("by way of p, q, r, s", late.wedding(0, 1), 17);
        Check.days(late, 16);
        check.due("on the day ahead of it", late.wedding(0, 1), 1);
        check.due("it is a wedding", late.day(), 1);
        check.due("behind it", late.wedding(0, 1), 0);
    }

    /** "0, if one is". */
    private static void weddingOfOneThatIsGone() {
        LetHoles x = eaten("DO0Ha02Ht02Hj02", 19);
        check.due("the other one is gone", x.wedding(0, 1), 0);
        check.due("the one is gone", x.wedding(1, 0), 0);
        check.due("neither is", x.wedding(0, 2), Check.NONE);
        x.eat(0, 0);
        check.due("both are", x.wedding(0, 1), 0);
        check.due("both are one", x.wedding(0, 0), Check.OUTSIDE);
    }

    /** "NONE." */
    private static void weddingNever() {
        check.due("blind ones", Check.dairy("DO0Ha02Ht02").wedding(0, 1), Check.NONE);
        check.due("a monk's row between", Check.dairy("DO0O1R11Ha01Hk00").wedding(0, 1), Check.NONE);
        check.due("columns apart", Check.dairy("DO0Ha03Hc03").wedding(0, 1), Check.NONE);
        LetHoles wall = eaten("DO0Ha01Ht01", 5, 6, 7, 8, 9);
        check.due("what is eaten between", wall.wedding(0, 1), Check.NONE);
    }

    /** One of both is gone by a wedding with a third one. */
    private static void weddingIsWhenOneOfBothIsGone() {
        LetHoles x = Check.dairy("DO0Ha02Hb00Ht02");
        check.due("hole 0 weds hole 1", x.wedding(0, 2), 1);
        check.due("hole 1 has all", x.wedding(1, 2), 13);
    }

    private static void weddingIfNothingElseIsDone() {
        LetHoles x = Check.dairy("DO0Ha00He02");
        check.due("as it stands", x.wedding(0, 1), 3);
        x.eat(0, 2);
        check.due("with c eaten", x.wedding(0, 1), 6);
        x.undo();
        check.due("that undone", x.wedding(0, 1), 3);
    }

    /** "IN n DAYS (0 to 20)". */
    private static void aheadInNoDays() {
        LetHoles x = Check.dairy("DO0Ha02Hb02");
        check.due("holes", x.ahead(0, 0), 3);
        check.due("paste", x.ahead(0, 1), 18);
        check.due("in one day: holes", x.ahead(1, 0), 1);
        check.due("in -1 days", x.ahead(-1, 0), Check.OUTSIDE);
    }

    private static void aheadIn20Days() {
        LetHoles x = Check.dairy("DO0Ha00");
        for (int n = 0; n <= 20; n++) {
            check.due("in " + n + " days", x.ahead(n, 1), Math.max(0, 19 - n));
            check.due("in " + n + " days: holes", x.ahead(n, 0), 1);
        }
        check.due("in 21 days", x.ahead(21, 1), Check.OUTSIDE);
        check.due("in 21 days: holes", x.ahead(21, 0), Check.OUTSIDE);
        check.due("what -1", x.ahead(20, -1), Check.OUTSIDE);
        check.due("what 2", x.ahead(20, 2), Check.OUTSIDE);
    }

    /** "HOLES that are not GONE (bits)". */
    private static void aheadTellsHolesThatAreNotGone() {
        check.due("no holes", Check.dairy("DO0").ahead(20, 0), 0);
        LetHoles five = Check.dairy("DO0Ha02Hc02He02Hk02Hm02");
        check.due("all five", five.ahead(20, 0), 31);
        five.eat(0, 2);
        check.due("one is gone", five.ahead(0, 0), 29);
        check.due("it stays gone", five.ahead(20, 0), 29);
        LetHoles last = Check.dairy("DO0Ha02Hc02He02Ho02Hb01");
        check.due("the fifth has a and c", last.ahead(1, 0), 4 + 8 + 16);
    }

    /** "how many CELLS are PASTE": neither of holes nor eaten; a monk's are. */
    private static void aheadTellsPaste() {
        check.due("all of them", new LetHoles().ahead(0, 1), 20);
        LetHoles x = eaten("DO0O1R11Ha00", 4, 19);
        check.due("behind two eaten", x.ahead(0, 1), 17);
        check.due("in a day", x.ahead(1, 1), 16);
        check.due("in 20 days: those of the monk and those behind", x.ahead(20, 1), 14);
        LetHoles all = Check.dairy("DO0");
        for (int cell = 0; cell < 20; cell++) {
            all.eat(0, cell);
        }
        check.due("none of them", all.ahead(20, 1), 0);
    }

    /** "of COLUMNS 1 to 4 the one by which the one has most CELLS in lesser COLUMNS, and the other in the rest". */
    private static void cutByColumns1To4() {
        String[] ones = {"Ha02", "Ha02Hb02", "Ha02Hb02Hc02", "Ha02Hb02Hc02Hd02"};
        for (int columns = 1; columns <= 4; columns++) {
            LetHoles x = Check.dairy("DO0O0" + ones[columns - 1]);
            check.due("which, " + columns, x.cut(0, 1, 0), columns);
            check.due("how many, " + columns, x.cut(0, 1, 1), columns);
            check.due("which, the other way", x.cut(1, 0, 0), 1);
            check.due("how many, the other way", x.cut(1, 0, 1), columns - 1);
        }
        LetHoles four = Check.dairy("DO0O0O0O0R00R11R22R33");
        for (int pair = 0; pair < 16; pair++) {
            if (pair / 4 != pair % 4) {
                check.due("two rows of four", four.cut(pair / 4, pair % 4, 1), 5);
                four.eat(0, 5 * (pair % 4));
                four.eat(0, 5 * (pair / 4) + 4);
                check.due("the ends that are cut off are not missed", four.cut(pair / 4, pair % 4, 1), 5);
                four.undo();
                four.eat(0, 5 * (pair / 4));
                check.due("a cell less", four.cut(pair / 4, pair % 4, 1), 4);
                four.undo();
                four.undo();
            }
        }
        LetHoles first = Check.dairy("DO0O0Ha12");
        check.due("column 0 is never the other one's", first.cut(0, 1, 1), 0);
        LetHoles last = Check.dairy("DO0O0He02");
        check.due("column 4 is never the one's", last.cut(0, 1, 1), 0);
        LetHoles both = Check.dairy("DO0O0Hd02He12Hb12");
        check.due("together: which", both.cut(0, 1, 0), 1);
        check.due("together: how many", both.cut(0, 1, 1), 2);
    }

    /** "of like ones the least". */
    private static void cutOfLikeOnesTheLeast() {
        LetHoles all = Check.dairy("DO0O0R00R11");
        check.due("all like", all.cut(0, 1, 0), 1);
        LetHoles two = Check.dairy("DO0O0Hb02Hd12");
        check.due("2 and 3 like", two.cut(0, 1, 0), 2);
        check.due("2 and 3: how many", two.cut(0, 1, 1), 2);
        LetHoles three = Check.dairy("DO0O0Hc02He12");
        check.due("3 and 4 like", three.cut(0, 1, 0), 3);
    }

    /** "(PASTE, HOLES)": not what is eaten, nor what is nobody's or a third one's. */
    private static void cutCountsPasteAndHoles() {
        LetHoles x = Check.dairy("DO0O0O0R00R11R22Hp02Hq02Ht12");
        // By column 2: a, b, p, q of the one; h, i, j, t of the other one.
        check.due("which", x.cut(0, 1, 0), 2);
        check.due("how many", x.cut(0, 1, 1), 8);
        x.eat(0, 16);
        check.due("eaten: which", x.cut(0, 1, 0), 1);
        check.due("eaten: how many", x.cut(0, 1, 1), 7);
        x.let(2, 0);
        check.due("let is not sold", x.cut(0, 1, 1), 7);
        x.sell(2, 0);
        check.due("sold", x.cut(0, 1, 1), 6);
    }

    private static void cutOfNothing() {
        LetHoles x = Check.dairy("DO0O0");
        check.due("which", x.cut(0, 1, 0), 1);
        check.due("how many", x.cut(0, 1, 1), 0);
        check.due("what -1", x.cut(0, 1, -1), Check.OUTSIDE);
        check.due("what 2", x.cut(0, 1, 2), Check.OUTSIDE);
        check.due("both are one", x.cut(1, 1, 0), Check.OUTSIDE);
        check.due("owner 2", x.cut(2, 0, 0), Check.UNKNOWN);
        check.due("other 2", x.cut(0, 2, 0), Check.UNKNOWN);
    }
}

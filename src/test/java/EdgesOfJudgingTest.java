/** Promise 19, JUDGED: each part of its sentence that names an edge has a test of its own. */
public final class EdgesOfJudgingTest {
    private static final Check check = new Check();

    public static void main(String[] args) {
        oneToThreeDoings();
        rowIs0OrMore();
        fourFiguresEachAtMost();
        theFirstStandsInTheUpperFigures();
        thePlaceOfTheFirstThatCanNotBe();
        aDayIsFourNoughts();
        eatenByOwnersAndCells();
        eatenOnce();
        letByHolesAndOwners();
        soldByHolesAndOwners();
        thirdFigureIsNought();
        noDoingBeginsWith4To9();
        eachBehindTheOnesAhead();
        nothingIsDone();
        check.end();
    }

    private static void due(LetHoles x, int n, long row, int want) {
        check.due("judge(" + n + ", " + row + ")", x.judge(n, row), want);
    }

    /** "n doings (1 to 3)". */
    private static void oneToThreeDoings() {
        LetHoles x = Check.dairy("DO0Ha00");
        due(x, 0, 0L, Check.OUTSIDE);
        due(x, 1, 0L, Check.NONE);
        due(x, 2, 0L, Check.NONE);
        due(x, 3, 0L, Check.NONE);
        due(x, 4, 0L, Check.OUTSIDE);
        due(x, -1, 0L, Check.OUTSIDE);
    }

    /** "OUTSIDE: n, row (0 or more, ..)". */
    private static void rowIs0OrMore() {
        LetHoles x = Check.dairy("DO0Ha00");
        for (int n = 1; n <= 3; n++) {
            due(x, n, 0L, Check.NONE);
            due(x, n, -1L, Check.OUTSIDE);
            due(x, n, -1000L, Check.OUTSIDE);
            due(x, n, Long.MIN_VALUE, Check.OUTSIDE);
        }
    }

    /** "4 n figures at most". */
    private static void fourFiguresEachAtMost() {
        LetHoles x = Check.dairy("DO0Ha00");
        due(x, 1, 9999L, 0);
        due(x, 1, 10000L, Check.OUTSIDE);
        due(x, 2, 99999999L, 0);
        due(x, 2, 100000000L, Check.OUTSIDE);
        due(x, 3, 999999999999L, 0);
        due(x, 3, 1000000000000L, Check.OUTSIDE);
        due(x, 3, Long.MAX_VALUE, Check.OUTSIDE);
        due(x, 2, 10000L, 0);
        due(x, 2, 10000000L, Check.NONE);
    }

    /** Fewer figures are those of days ahead of the others: the first doing is told first. */
    private static void theFirstStandsInTheUpperFigures() {
        LetHoles x = Check.dairy("DO0O0Ha02");
        due(x, 1, 1001L, Check.NONE);
        due(x, 2, 1001L, Check.NONE);
        due(x, 3, 1001L, Check.NONE);
        due(x, 2, 30012001L, 1);
        due(x, 2, 20013001L, Check.NONE);
        due(x, 3, 300120010000L, 1);
        due(x, 3, 30012001L, 2);
    }

    /** "the place of the first that can not be; NONE: none." */
    private static void thePlaceOfTheFirstThatCanNotBe() {
        LetHoles x = Check.dairy("DO0Ha00");
        due(x, 3, 400040004000L, 0);
        due(x, 3, 40004000L, 1);
        due(x, 3, 4000L, 2);
        due(x, 3, 400000004000L, 0);
        due(x, 3, 0L, Check.NONE);
        due(x, 2, 4000L, 1);
        due(x, 2, 40000000L, 0);
        due(x, 1, 4000L, 0);
    }

    /** "0, 0, 0, 0: A DAY". */
    private static void aDayIsFourNoughts() {
        LetHoles x = Check.dairy("DO0O0Ha02");
        due(x, 1, 0L, Check.NONE);
        for (long figures = 1L; figures < 1000L; figures++) {
            due(x, 1, figures, 0);
        }
        due(new LetHoles(), 3, 0L, Check.NONE);
    }

    /** "1, an OWNER, and two figures of a CELL: EATEN". */
    private static void eatenByOwnersAndCells() {
        for (int owners = 0; owners <= 4; owners++) {
            for (int owner = 0; owner <= 9; owner++) {
                LetHoles x = Check.dairy("D" + "O0".repeat(owners));
                int can = owner < owners ? Check.NONE : 0;
                due(x, 1, 1000L + 100L * owner, can);
                due(x, 1, 1019L + 100L * owner, can);
                due(x, 1, 1020L + 100L * owner, 0);
                due(x, 1, 1099L + 100L * owner, 0);
            }
        }
    }

    private static void eatenOnce() {
        LetHoles x = Check.dairy("DO0O0");
        x.eat(0, 19);
        due(x, 1, 1019L, 0);
        due(x, 1, 1119L, 0);
        due(x, 1, 1018L, Check.NONE);
        due(x, 2, 10181118L, 1);
        due(x, 3, 101800001118L, 2);
    }

    /** "2, a HOLE, 0, an OWNER: LET". */
    private static void letByHolesAndOwners() {
        LetHoles x = Check.dairy("DO0O0O0Ha02Ht12");
        int[][] can = {{0, 1, 1, 0}, {1, 0, 1, 0}, {0, 0, 0, 0}};
        for (int hole = 0; hole < 3; hole++) {
            for (int owner = 0; owner < 4; owner++) {
                due(x, 1, 2000L + 100L * hole + owner, can[hole][owner] == 1 ? Check.NONE : 0);
            }
        }
        due(x, 1, 2900L, 0);
        due(x, 1, 2009L, 0);
        x.let(0, 1);
        due(x, 1, 2001L, 0);
        due(x, 1, 2002L, Check.NONE);
        x.eat(0, 19);
        due(x, 1, 2100L, 0);
    }

    /** "3, a HOLE, 0, an OWNER: SOLD". */
    private static void soldByHolesAndOwners() {
        LetHoles x = Check.dairy("DO0O0O0Ha02Ht12");
        int[][] can = {{0, 1, 1, 0}, {1, 0, 1, 0}, {0, 0, 0, 0}};
        for (int hole = 0; hole < 3; hole++) {
            for (int owner = 0; owner < 4; owner++) {
                due(x, 1, 3000L + 100L * hole + owner, can[hole][owner] == 1 ? Check.NONE : 0);
            }
        }
        due(x, 1, 3900L, 0);
        due(x, 1, 3009L, 0);
        x.let(0, 1);
        due(x, 1, 3001L, Check.NONE);
        x.eat(0, 19);
        due(x, 1, 3100L, 0);
    }

    private static void thirdFigureIsNought() {
        LetHoles x = Check.dairy("DO0O0Ha02");
        for (int third = 0; third < 10; third++) {
            due(x, 1, 2001L + 10L * third, third == 0 ? Check.NONE : 0);
            due(x, 1, 3001L + 10L * third, third == 0 ? Check.NONE : 0);
        }
    }

    private static void noDoingBeginsWith4To9() {
        LetHoles x = Check.dairy("DO0O0Ha02");
        for (int first = 4; first < 10; first++) {
            due(x, 1, 1000L * first, 0);
            due(x, 1, 1000L * first + 1L, 0);
        }
    }

    /** A doing is judged as it would be, were the ones ahead of it done. */
    private static void eachBehindTheOnesAhead() {
        LetHoles x = Check.dairy("DO0O0Ha02Hb10");
        due(x, 1, 2001L, Check.NONE);
        due(x, 2, 2001L, 1);
        due(x, 2, 10002001L, 1);
        due(x, 2, 30013000L, Check.NONE);
        due(x, 3, 300130003000L, 2);
        due(x, 3, 200120012001L, 1);
        due(x, 3, 200130012000L, Check.NONE);
        due(x, 3, 2100L, Check.NONE);
        due(x, 3, 100110002100L, 2);
    }

    private static void nothingIsDone() {
        LetHoles x = Check.dairy("DO0O0Ha02");
        due(x, 3, 100030010000L, 1);
        due(x, 3, 100030010000L, 1);
        due(x, 3, 200100001019L, Check.NONE);
        check.due("not let", x.hole(0, 2), Check.NONE);
        check.due("not eaten", x.count(5), 0);
        check.due("no day", x.count(3), 0);
        check.due("no act", x.count(7), 0);
    }
}

/** Promises 20 to 29, ==== 3: each sentence that names an edge has a test of its own. */
public final class EdgesOfChancesTest {
    private static final Check check = new Check();
    private static final int ALL = (1 << 20) - 1;
    private static final String CELLS = "abcdefghijklmnopqrst";

    public static void main(String[] args) {
        noneIsTastedAtFirst();
        sixAreTastedAtMost();
        tastedBehind0To9Days();
        tastedOfHoleOrNot();
        rinseOfNoneAndOfAll();
        beganByNothing();
        beganForKinds0To3();
        beganBehind0Days();
        beganBehind9Days();
        beganByAllThatIsTasted();
        beganNowhere();
        beganWithPasteBeingNobodys();
        shareOfTheOnlyOwner();
        shareOfOneThatOwnsNothing();
        shareInTheMean();
        shareOfTheLargestEstate();
        shareIsInLeastTerms();
        sharesOfFour();
        restsOfNoneOneTwoAndThreeCells();
        restsCountCellsOfHolesAlone();
        passesBy0To10Tenths();
        passesToTheSame();
        passesByEatenCells();
        passesNeedBothEnds();
        passesByHolesThatAreNotGone();
        passesByFiveHoles();
        check.end();
    }

    private static void dueFraction(String what, int above, int below, int wantAbove, int wantBelow) {
        check.due(what + ", above", above, wantAbove);
        check.due(what + ", below", below, wantBelow);
    }

    private static void dueShare(String when, LetHoles x, int owner, int above, int below) {
        dueFraction(when + ": share(" + owner + ")", x.share(owner, true), x.share(owner, false), above, below);
    }

    private static void duePasses(LetHoles x, int cell, int other, int tenths, int above, int below) {
        dueFraction("passes(" + cell + ", " + other + ", " + tenths + ")", x.passes(cell, other, tenths, true),
            x.passes(cell, other, tenths, false), above, below);
    }

    /** "none at first". */
    private static void noneIsTastedAtFirst() {
        LetHoles x = new LetHoles();
        check.due("count(8)", x.count(8), 0);
        check.due("rinse()", x.rinse(), 0);
    }

    /** "6 such at most"; "FULL: 6"; "how many there are". */
    private static void sixAreTastedAtMost() {
        LetHoles x = new LetHoles();
        for (int i = 1; i <= 6; i++) {
            check.due("taste " + i, x.taste(i, 0, 0), i);
        }
        check.due("taste 7", x.taste(7, 0, 0), Check.FULL);
        check.due("the first again", x.taste(1, 0, 0), Check.FULL);
        check.due("six are tasted", x.count(8), 6);
        check.due("those six", x.began(2), ALL - Check.bits(1, 2, 3, 4, 5, 6));
        check.due("UNKNOWN is named first", x.taste(20, 0, 0), Check.UNKNOWN);
        check.due("OUTSIDE is named next: n", x.taste(0, 10, 0), Check.OUTSIDE);
        check.due("OUTSIDE is named next: hole", x.taste(0, 0, 2), Check.OUTSIDE);
    }

    /** "behind n DAYS (0 to 9)". */
    private static void tastedBehind0To9Days() {
        LetHoles x = new LetHoles();
        check.due("-1 days", x.taste(0, -1, 1), Check.OUTSIDE);
        check.due("0 days", x.taste(0, 0, 1), 1);
        check.due("9 days", x.taste(0, 9, 1), 2);
        check.due("10 days", x.taste(0, 10, 1), Check.OUTSIDE);
        check.due("two are tasted", x.count(8), 2);
    }

    /** "that a CELL was of a HOLE (1) or not (0)"; "UNKNOWN: cell". */
    private static void tastedOfHoleOrNot() {
        LetHoles x = new LetHoles();
        check.due("hole -1", x.taste(0, 0, -1), Check.OUTSIDE);
        check.due("hole 2", x.taste(0, 0, 2), Check.OUTSIDE);
        check.due("cell -1", x.taste(-1, 0, 0), Check.UNKNOWN);
        check.due("cell 20", x.taste(20, 0, 0), Check.UNKNOWN);
        check.due("cell 19, of none", x.taste(19, 0, 0), 1);
        check.due("so it is", x.began(2), ALL - Check.bits(19));
        x.rinse();
        check.due("cell 0, of one", x.taste(0, 0, 1), 1);
        check.due("so it is", x.began(2), Check.bits(0));
    }

    /** Promise 21: "Nothing is TASTED: how much there was." */
    private static void rinseOfNoneAndOfAll() {
        LetHoles x = new LetHoles();
        for (int n = 0; n <= 6; n++) {
            for (int i = 0; i < n; i++) {
                x.taste(0, 0, 1);
            }
            check.due("rinse of " + n, x.rinse(), n);
            check.due("none are left", x.count(8), 0);
            check.due("all may be again", x.began(0), ALL);
        }
    }

    /** All that is tasted is so, if nothing is. */
    private static void beganByNothing() {
        for (int kind = 0; kind < 4; kind++) {
            check.due("began(" + kind + ")", new LetHoles().began(kind), ALL);
        }
    }

    /** "BEGAN for a KIND (0 to 3)"; "OUTSIDE: kind". */
    private static void beganForKinds0To3() {
        LetHoles x = new LetHoles();
        x.taste(5, 2, 1);
        int[] cells = {Check.bits(5, 10, 15), Check.bits(5, 10, 15), Check.bits(5), Check.bits(0, 5, 10, 15)};
        check.due("began(-1)", x.began(-1), Check.OUTSIDE);
        for (int kind = 0; kind < 4; kind++) {
            check.due("began(" + kind + ")", x.began(kind), cells[kind]);
        }
        check.due("began(4)", x.began(4), Check.OUTSIDE);
    }

    private static void beganBehind0Days() {
        for (int cell = 0; cell < 20; cell++) {
            LetHoles x = new LetHoles();
            x.taste(cell, 0, 1);
            for (int kind = 0; kind < 4; kind++) {
                check.due("there it is told", x.began(kind), Check.bits(cell));
            }
            x.rinse();
            x.taste(cell, 0, 0);
            check.due("anywhere else", x.began(0), ALL - Check.bits(cell));
        }
    }

    /** The lone hole grows as A DAY tells: behind 9 days a plain one has ten cells, a greedy one nineteen. */
    private static void beganBehind9Days() {
        for (int cell = 0; cell < 20; cell++) {
            for (int days = 0; days <= 9; days++) {
                LetHoles tasted = new LetHoles();
                tasted.taste(cell, days, 1);
                for (int kind = 0; kind < 4; kind++) {
                    check.due(cell + " behind " + days + ", kind " + kind, tasted.began(kind), grown(cell, days, kind));
                }
            }
        }
    }

    /** The starts from which a hole of that kind has the cell behind so many days, by days that pass. */
    private static int grown(int cell, int days, int kind) {
        int starts = 0;
        for (int start = 0; start < 20; start++) {
            LetHoles x = Check.dairy("DO0H" + CELLS.charAt(start) + "0" + kind);
            Check.days(x, days);
            starts |= x.cell(cell, 0) == 1 ? 1 << start : 0;
        }
        return starts;
    }

    /** "so that all that is TASTED is so". */
    private static void beganByAllThatIsTasted() {
        LetHoles x = new LetHoles();
        x.taste(6, 1, 1);
        check.due("one", x.began(0), Check.bits(6, 11));
        x.taste(1, 1, 0);
        check.due("two", x.began(0), Check.bits(11));
        x.taste(11, 9, 1);
        check.due("three", x.began(0), Check.bits(11));
        x.taste(0, 3, 1);
        check.due("four", x.began(0), Check.bits(11));
        x.taste(0, 2, 0);
        check.due("five", x.began(0), Check.bits(11));
        x.taste(19, 9, 1);
        check.due("six", x.began(0), 0);
    }

    private static void beganNowhere() {
        LetHoles x = new LetHoles();
        x.taste(0, 0, 1);
        x.taste(0, 9, 0);
        for (int kind = 0; kind < 4; kind++) {
            check.due("what was a hole stays one", x.began(kind), 0);
        }
    }

    /** "the only HOLE of a WHEEL, .. all PASTE being nobody's": neither monks nor holes of the dairy are by. */
    private static void beganWithPasteBeingNobodys() {
        LetHoles x = Check.dairy("DO1R00R10R20R30Ha00Hg00");
        x.eat(0, 5);
        x.taste(1, 1, 1);
        check.due("plain", x.began(0), Check.bits(0, 1, 2, 6));
        x.ahead(20, 0);
        check.due("plain, behind days ahead", x.began(0), Check.bits(0, 1, 2, 6));
        x.judge(2, 10011011L);
        check.due("plain, behind doings", x.began(0), Check.bits(0, 1, 2, 6));
        x.years(30);
        check.due("plain, behind years", x.began(0), Check.bits(0, 1, 2, 6));
        check.due("nothing of the dairy is changed", x.count(4), Check.bits(0, 6));
    }

    /** SHARE of one alone: all of its largest estate. */
    private static void shareOfTheOnlyOwner() {
        dueShare("nothing", Check.dairy("DO0"), 0, 0, 1);
        dueShare("a row", Check.dairy("DO0R00"), 0, 5, 1);
        dueShare("two rows apart", Check.dairy("DO0R00R20"), 0, 5, 1);
        dueShare("all", Check.dairy("DO0R00R10R20R30"), 0, 20, 1);
    }

    private static void shareOfOneThatOwnsNothing() {
        LetHoles x = Check.dairy("DO0O0R00");
        dueShare("it owns nothing", x, 1, 0, 1);
        dueShare("the other one all", x, 0, 5, 1);
    }

    /** "if OWNERS come one by one, in each order as likely: by how many in the mean". */
    private static void shareInTheMean() {
        LetHoles x = Check.dairy("DO0O0R00R20R11");
        // 0 alone has 5, 1 alone 5, both 15: 0 brings 5 or 10, so does 1.
        dueShare("a row between", x, 0, 15, 2);
        dueShare("a row between", x, 1, 15, 2);
        LetHoles three = Check.dairy("DO0O0O0R00R11R22");
        dueShare("the upper one", three, 0, 25, 6);
        dueShare("the middle one", three, 1, 20, 3);
        dueShare("the lower one", three, 2, 25, 6);
    }

    /** "CELLS of the largest estate": holes are owned, too; what is eaten parts an estate. */
    private static void shareOfTheLargestEstate() {
        LetHoles x = Check.dairy("DO0R00R10R20R30");
        for (int cell = 10; cell < 14; cell++) {
            x.eat(0, cell);
        }
        dueShare("one cell still joins", x, 0, 16, 1);
        x.eat(0, 14);
        dueShare("in two, 10 and 5", x, 0, 10, 1);
        LetHoles hole = Check.dairy("DO0O0R00Hf12");
        // 0 alone 5, 1 alone 1, both 6.
        dueShare("a hole beside", hole, 0, 5, 1);
        dueShare("a hole beside", hole, 1, 1, 1);
        LetHoles like = Check.dairy("DO0O0R00R21");
        dueShare("the largest of two like ones", like, 0, 5, 2);
        LetHoles corner = Check.dairy("DO0O0Ha02Hg12");
        dueShare("corners are not beside", corner, 0, 1, 2);
        LetHoles ends = Check.dairy("DO0O0He02Hf12");
        dueShare("ends of rows are not beside", ends, 1, 1, 2);
    }

    /** "FRACTIONS are told above, below (1 and more), in least terms". */
    private static void shareIsInLeastTerms() {
        LetHoles two = Check.dairy("DO0O0R00R11");
        dueShare("10 halves", two, 0, 5, 1);
        LetHoles three = Check.dairy("DO0O0O0R00R22");
        // Owner 0 brings 5 in three of six orders, owner 1 nothing.
        dueShare("15 sixths", three, 0, 5, 2);
        dueShare("no sixths", three, 1, 0, 1);
    }

    /** "OWNERS (4 at most)": 24 orders. */
    private static void sharesOfFour() {
        LetHoles x = Check.dairy("DO0O0O0O0R00R11R22R33");
        // 0 brings 5, but nothing if others have come and 1 has not.
        int sum = 0;
        for (int owner = 0; owner < 4; owner++) {
            sum += 24 / x.share(owner, false) * x.share(owner, true);
        }
        check.due("all shares make all of it", sum, 24 * 20);
        dueShare("the outer ones", x, 0, 15, 4);
        dueShare("the inner ones", x, 1, 25, 4);
        dueShare("the inner ones", x, 2, 25, 4);
        dueShare("the outer ones", x, 3, 15, 4);
        check.due("share(4, true)", x.share(4, true), Check.UNKNOWN);
        check.due("share(4, false)", x.share(4, false), Check.UNKNOWN);
    }

    /** RESTS: both ask 1 always rests; both ask 2 as long as neither has more than 2 by asking 1. */
    private static void restsOfNoneOneTwoAndThreeCells() {
        int[] cells = {0, 1, 2, 3, 4};
        for (int ones : cells) {
            for (int others : cells) {
                LetHoles x = withCells(ones, others);
                String of = " of " + ones + " and " + others;
                check.due("how many" + of, x.rests(0, 1, 0), ones <= 2 && others <= 2 ? 2 : 1);
                check.due("the first" + of, x.rests(0, 1, 1), 11);
            }
        }
        LetHoles x = withCells(1, 1);
        check.due("what -1", x.rests(0, 1, -1), Check.OUTSIDE);
        check.due("what 2", x.rests(0, 1, 2), Check.OUTSIDE);
        check.due("both are one", x.rests(1, 1, 0), Check.OUTSIDE);
        check.due("owner 2", x.rests(2, 0, 0), Check.UNKNOWN);
        check.due("other 2", x.rests(0, 2, 0), Check.UNKNOWN);
    }

    /** Two columns with so many cells of two owners' holes. */
    private static LetHoles withCells(int ones, int others) {
        LetHoles x = Check.dairy("DO0O0Ha03He13");
        Check.days(x, 3);
        for (int row = ones; row < 4; row++) {
            x.eat(0, 5 * row);
        }
        for (int row = others; row < 4; row++) {
            x.eat(0, 5 * row + 4);
        }
        return x;
    }

    private static void restsCountCellsOfHolesAlone() {
        LetHoles x = Check.dairy("DO0O0R00R10R20R31Ha02Hc02He02Ht12");
        check.due("three holes of one cell", x.rests(0, 1, 0), 1);
        x.let(0, 1);
        check.due("let is not sold", x.rests(0, 1, 0), 1);
        x.sell(0, 1);
        check.due("two holes each", x.rests(0, 1, 0), 2);
        check.due("paste is none", x.rests(1, 0, 0), 2);
    }

    /** "shut by x tenths (0 to 10)". */
    private static void passesBy0To10Tenths() {
        LetHoles x = Check.dairy("DO0Ha02Hb02");
        int[] above = {1, 81, 16, 49, 9, 1, 4, 9, 1, 1, 0};
        int[] below = {1, 100, 25, 100, 25, 4, 25, 100, 25, 100, 1};
        for (int tenths = 0; tenths <= 10; tenths++) {
            duePasses(x, 0, 1, tenths, above[tenths], below[tenths]);
        }
        check.due("-1, above", x.passes(0, 1, -1, true), Check.OUTSIDE);
        check.due("-1, below", x.passes(0, 1, -1, false), Check.OUTSIDE);
        check.due("11, above", x.passes(0, 1, 11, true), Check.OUTSIDE);
        check.due("11, below", x.passes(0, 1, 11, false), Check.OUTSIDE);
    }

    /** WAY is 0 to the same, whatever it is. */
    private static void passesToTheSame() {
        LetHoles x = Check.dairy("DO0Ha02");
        x.eat(0, 19);
        for (int cell = 0; cell < 20; cell++) {
            duePasses(x, cell, cell, 10, 1, 1);
            duePasses(x, cell, cell, 3, 1, 1);
        }
    }

    /** "(EATEN CELLS are open)". */
    private static void passesByEatenCells() {
        LetHoles x = Check.dairy("DO0Hb02");
        x.eat(0, 0);
        x.eat(0, 2);
        duePasses(x, 0, 2, 3, 7, 10);
        duePasses(x, 0, 2, 10, 0, 1);
        x.eat(0, 5);
        x.eat(0, 6);
        x.eat(0, 7);
        duePasses(x, 0, 2, 10, 1, 1);
        duePasses(x, 0, 1, 4, 3, 5);
    }

    private static void passesNeedBothEnds() {
        LetHoles x = Check.dairy("DO0Ha02Hb02");
        duePasses(x, 0, 1, 5, 1, 4);
        duePasses(x, 0, 2, 0, 0, 1);
        duePasses(x, 2, 0, 0, 0, 1);
        duePasses(x, 2, 3, 0, 0, 1);
    }

    /** "each HOLE that is not GONE", "by itself": by all its cells at once. */
    private static void passesByHolesThatAreNotGone() {
        LetHoles x = Check.dairy("DO0Ha00Ht02");
        x.day();
        duePasses(x, 0, 1, 1, 9, 10);
        x.eat(0, 19);
        duePasses(x, 0, 1, 1, 9, 10);
        x.eat(0, 0);
        duePasses(x, 0, 1, 1, 9, 10);
        x.eat(0, 1);
        duePasses(x, 0, 1, 10, 1, 1);
    }

    private static void passesByFiveHoles() {
        LetHoles x = Check.dairy("DO0Ha02Hb02Hc02Hd02He02");
        duePasses(x, 0, 4, 1, 59049, 100000);
        duePasses(x, 0, 4, 9, 1, 100000);
        duePasses(x, 0, 4, 5, 1, 32);
        duePasses(x, 4, 0, 2, 1024, 3125);
        x.day();
        duePasses(x, 0, 4, 1, 9, 10);
    }
}

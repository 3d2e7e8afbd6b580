/** Promises 20 to 29: tasted, shares, rests, passes, years by the seed, slots. */
public final class ChancesTest {
    private static final Check check = new Check();

    public static void main(String[] args) {
        tastes();
        begins();
        shares();
        restsOfTwo();
        chancesToPass();
        yearsBySeed();
        slots();
        check.end();
    }

    private static void tastes() {
        LetHoles x = new LetHoles();
        check.due("taste(20, 0, 0)", x.taste(20, 0, 0), Check.UNKNOWN);
        check.due("taste(-1, 0, 0)", x.taste(-1, 0, 0), Check.UNKNOWN);
        check.due("taste(0, 10, 0)", x.taste(0, 10, 0), Check.OUTSIDE);
        check.due("taste(0, -1, 0)", x.taste(0, -1, 0), Check.OUTSIDE);
        check.due("taste(0, 0, 2)", x.taste(0, 0, 2), Check.OUTSIDE);
        check.due("taste(0, 0, -1)", x.taste(0, 0, -1), Check.OUTSIDE);
        check.due("nothing at first", x.rinse(), 0);
        for (int i = 1; i <= 6; i++) {
            check.due("taste " + i, x.taste(19, 9, 1), i);
        }
        check.due("UNKNOWN comes first", x.taste(20, 10, 2), Check.UNKNOWN);
        check.due("OUTSIDE comes next", x.taste(0, 10, 0), Check.OUTSIDE);
        check.due("FULL comes last", x.taste(0, 0, 0), Check.FULL);
        check.due("tasted", x.count(8), 6);
        check.due("rinse", x.rinse(), 6);
        check.due("nothing is tasted", x.count(8), 0);
        check.due("taste again", x.taste(0, 0, 0), 1);
    }

    private static void begins() {
        LetHoles x = Check.dairy("DO1R00R10R20R30Ha00");
        int all = (1 << 20) - 1;
        for (int kind = 0; kind < 4; kind++) {
            check.due("nothing tasted, kind " + kind, x.began(kind), all);
        }
        x.taste(5, 0, 0);
        check.due("not there at first", x.began(2), all - Check.bits(5));
        x.taste(12, 1, 1);
        check.due("plain: 12 itself, 17 (12 is its least); 11 and 13 take above", x.began(0), Check.bits(12, 17));
        check.due("greedy", x.began(1), Check.bits(12, 17));
        check.due("blind", x.began(2), Check.bits(12));
        check.due("through takes 2 first, from 2 it takes 7", x.began(3), Check.bits(12));
        x.rinse();
        x.taste(19, 9, 1);
        check.due("through: behind nine days all of the column", x.began(3), Check.bits(4, 9, 14, 19));
        check.due("plain: 19 or none", x.began(0), Check.bits(19));
        check.due("greedy", x.began(1), Check.bits(19));
        x.taste(19, 9, 0);
        check.due("it can not be both", x.began(3), 0);
        check.due("the dairy is as it was", x.count(4), Check.bits(0));
        check.due("began(4)", x.began(4), Check.OUTSIDE);
        check.due("began(-1)", x.began(-1), Check.OUTSIDE);
    }

    private static void dueFraction(String what, int above, int below, int wantAbove, int wantBelow) {
        check.due(what + " above", above, wantAbove);
        check.due(what + " below", below, wantBelow);
    }

    private static void dueShare(LetHoles x, int owner, int above, int below) {
        dueFraction("share(" + owner + ")", x.share(owner, true), x.share(owner, false), above, below);
    }

    private static void shares() {
        dueShare(Check.dairy("DO0R10"), 0, 5, 1);
        dueShare(Check.dairy("DO0"), 0, 0, 1);
        LetHoles beside = Check.dairy("DO0O0R00R11");
        dueShare(beside, 0, 5, 1);
        dueShare(beside, 1, 5, 1);
        LetHoles apart = Check.dairy("DO0O0R00R21");
        dueShare(apart, 0, 5, 2);
        // The middle one joins the two outer ones: alone 5 each, outer ones together 5, all 15.
        LetHoles three = Check.dairy("DO0O0O0R00R11R22");
        dueShare(three, 0, 25, 6);
        dueShare(three, 1, 20, 3);
        dueShare(three, 2, 25, 6);
        LetHoles four = Check.dairy("DO0O0O0O0R00R11R22R33");
        int sum = 0;
        for (int owner = 0; owner < 4; owner++) {
            sum += x24(four, owner);
        }
        check.due("shares make all of it", sum, 24 * 20);
        // A cell by itself is an estate of one.
        LetHoles small = Check.dairy("DO0O0R30Ha10");
        dueShare(small, 0, 9, 2);
        dueShare(small, 1, 1, 2);
        small.eat(0, 17);
        dueShare(small, 0, 3, 2);
        dueShare(small, 1, 1, 2);
        check.due("share(2, true)", small.share(2, true), Check.UNKNOWN);
        check.due("share(2, false)", small.share(2, false), Check.UNKNOWN);
        check.due("share(-1, true)", small.share(-1, true), Check.UNKNOWN);
    }

    private static int x24(LetHoles x, int owner) {
        return x.share(owner, true) * (24 / x.share(owner, false));
    }

    private static void restsOfTwo() {
        LetHoles x = Check.dairy("DO0O0Ha00Ht12");
        check.due("one cell each: how many", x.rests(0, 1, 0), 2);
        check.due("one cell each: the first", x.rests(0, 1, 1), 11);
        x.day();
        check.due("two cells: no more by asking less", x.rests(1, 0, 0), 2);
        x.day();
        check.due("three cells: one has more by it", x.rests(0, 1, 0), 1);
        check.due("three cells: the other way round", x.rests(1, 0, 0), 1);
        check.due("the first", x.rests(1, 0, 1), 11);
        x.sell(0, 1);
        check.due("by whose the holes are", x.rests(0, 1, 0), 1);
        LetHoles none = Check.dairy("DO0O0R00R11");
        check.due("no holes", none.rests(0, 1, 0), 2);
        check.due("rests(0, 2, 0)", x.rests(0, 2, 0), Check.UNKNOWN);
        check.due("rests(-1, 0, 0)", x.rests(-1, 0, 0), Check.UNKNOWN);
        check.due("both are one", x.rests(1, 1, 0), Check.OUTSIDE);
        check.due("rests(0, 1, 2)", x.rests(0, 1, 2), Check.OUTSIDE);
        check.due("rests(0, 1, -1)", x.rests(0, 1, -1), Check.OUTSIDE);
        check.due("UNKNOWN comes first", x.rests(2, 2, 2), Check.UNKNOWN);
    }

    private static void duePasses(LetHoles x, int[] ends, int shut, int above, int below) {
        dueFraction("passes(" + ends[0] + ", " + ends[1] + ", " + shut + ")",
            x.passes(ends[0], ends[1], shut, true), x.passes(ends[0], ends[1], shut, false), above, below);
    }

    private static void chancesToPass() {
        LetHoles x = Check.dairy("DO0Ha02Hb02Hc02Hf02Hh02");
        x.eat(0, 6);
        int[] ends = {0, 2};
        // From 0 to 2 by 1, or by 5, 6, 7; 6 is eaten; both ends open by a half each.
        duePasses(x, ends, 5, 5, 32);
        duePasses(x, ends, 0, 1, 1);
        duePasses(x, ends, 10, 0, 1);
        // 0.9 * 0.9 * (1 - 0.1 * (1 - 0.81))
        duePasses(x, ends, 1, 79461, 100000);
        duePasses(x, new int[] {6, 7}, 3, 7, 10);
        duePasses(x, new int[] {6, 6}, 10, 1, 1);
        duePasses(x, new int[] {19, 19}, 10, 1, 1);
        duePasses(x, new int[] {0, 10}, 0, 0, 1);
        x.eat(0, 1);
        duePasses(x, new int[] {1, 6}, 10, 1, 1);
        x.eat(0, 5);
        duePasses(x, new int[] {0, 7}, 4, 9, 25);
        check.due("passes(20, 0, 0)", x.passes(20, 0, 0, true), Check.UNKNOWN);
        check.due("passes(0, -1, 0)", x.passes(0, -1, 0, false), Check.UNKNOWN);
        check.due("passes(0, 0, 11)", x.passes(0, 0, 11, true), Check.OUTSIDE);
        check.due("passes(0, 0, -1)", x.passes(0, 0, -1, false), Check.OUTSIDE);
        check.due("UNKNOWN comes first", x.passes(20, 0, 11, true), Check.UNKNOWN);
    }

    private static void yearsBySeed() {
        LetHoles x = Check.dairy("DO0Ha00");
        check.due("seed at first", x.seed(5L), 0L);
        check.due("seed then", x.seed(Long.MIN_VALUE), 5L);
        check.due("seed last", x.seed(0L), Long.MIN_VALUE);
        check.due("years(0)", x.years(0), Check.OUTSIDE);
        check.due("years(31)", x.years(31), Check.OUTSIDE);
        check.due("refused years leave the seed", x.seed(0L), 0L);
        // From 0 the upper 31 bits are 167951807 first, by 28 what is left is 23; then 8 is left.
        check.due("years(1): a day", x.years(1), 2);
        check.due("the seed went on", x.seed(0L), 1442695040888963407L);
        check.due("nothing is eaten here", x.count(5), 0);
        check.due("no day here", x.count(3), 0);
        check.due("no act here", x.count(7), 0);
        check.due("years one by one", yearsOf(x, 30), x.years(30));
        LetHoles blind = Check.dairy("DO0Hi02");
        check.due("years(1): a day, blind", blind.years(1), 1);
        check.due("one more: its cell is eaten", blind.years(1), 1 - 1);
        check.due("nothing is eaten here", blind.count(4), Check.bits(8));
        blind.seed(0L);
        check.due("years(2): a day, then its cell is eaten", blind.years(2), 0);
        // Ahead of lots 19 and 20: the last cell is eaten, the least lot above it is a day.
        LetHoles edge = Check.dairy("DO0Ht00");
        edge.seed(seedAheadOf(19));
        check.due("lot 19", edge.years(1), 0);
        edge.seed(seedAheadOf(20));
        check.due("lot 20", edge.years(1), 2);
        LetHoles nobody = new LetHoles();
        check.due("nobody eats", nobody.years(30), 0);
    }

    private static long seedAheadOf(int lot) {
        long seed = 0L;
        while (((seed * 6364136223846793005L + 1442695040888963407L) >>> 33) % 28 != lot) {
            seed++;
        }
        return seed;
    }

    /** The same years as acts on an object of their own. */
    private static int yearsOf(LetHoles x, int m) {
        LetHoles own = Check.dairy("DO0Ha00");
        long seed = 0L;
        for (int i = 0; i < m; i++) {
            seed = seed * 6364136223846793005L + 1442695040888963407L;
            long lot = (seed >>> 33) % 28;
            if (lot < 20) {
                own.eat(0, (int) lot);
            } else {
                own.day();
            }
        }
        x.seed(0L);
        return Integer.bitCount(own.count(4));
    }

    private static void slots() {
        LetHoles x = Check.dairy("DO0O0R01Ha00Hc10");
        check.due("keep(2)", x.keep(2), Check.UNKNOWN);
        check.due("keep(-1)", x.keep(-1), Check.UNKNOWN);
        check.due("again(2)", x.again(2), Check.UNKNOWN);
        check.due("again(-1)", x.again(-1), Check.UNKNOWN);
        check.due("again(0) ahead of keep", x.again(0), Check.STATE);
        x.eat(0, 4);
        x.let(1, 0);
        check.due("keep(1)", x.keep(1), 0);
        check.due("keep leaves the acts", x.count(7), 2);
        check.due("again(0), another slot", x.again(0), Check.STATE);
        x.sell(1, 0);
        Check.days(x, 2);
        check.due("keep(0)", x.keep(0), 2);
        x.day();
        check.due("again(1)", x.again(1), 0);
        check.due("cells as kept", x.count(4), Check.bits(0, 2));
        check.due("eaten as kept", x.count(5), Check.bits(4));
        check.due("whose as kept", x.hole(1, 1), 1);
        check.due("to whom as kept", x.hole(1, 2), 0);
        check.due("the day as kept", x.count(3), 0);
        check.dueBalances("balances as kept", x, -1, 1);
        check.due("the acts are gone", x.undo(), Check.STATE);
        check.due("again(0)", x.again(0), 2);
        x.day();
        check.due("again(0) once more", x.again(0), 2);
        check.due("the day", x.count(3), 2);
        check.due("keep(0) over it", x.keep(1), 2);
        check.due("again(1) is the later one", x.again(1), 2);
    }
}

/** Promises 9 to 13: days with growth, weddings and rents; eaten, let, sold; undone. */
public final class ActsTest {
    private static final Check check = new Check();

    public static void main(String[] args) {
        plainHolesGrow();
        otherKindsGrow();
        monksGiveNothing();
        holesWed();
        rentsArePaid();
        fifthHole();
        eats();
        lets();
        sells();
        undoes();
        check.end();
    }

    private static void plainHolesGrow() {
        LetHoles x = Check.dairy("DO0O0R00R11Hg00");
        int[] taken = {1, 0, 2, 3, 4, 5, 7};
        int cells = Check.bits(6);
        for (int i = 0; i < taken.length; i++) {
            check.due("day() " + i, x.day(), 0);
            cells |= 1 << taken[i];
            check.due("cells behind day " + i, x.hole(0, 3), cells);
        }
        check.dueBalances("two cells of owner 1 were taken", x, -2, 2);
        check.due("the day", x.count(3), 7);
        check.due("acts", x.count(7), 7);
        Check.days(x, 11);
        check.due("18 days fill all but one cell", x.count(4), (1 << 20) - 1 - Check.bits(19));
        check.dueBalances("nobody's paste is paid for", x, -2 - 2 - 9, 2 + 2);
        Check.days(x, 3);
        check.due("a full wheel stays", x.count(4), (1 << 20) - 1);
        check.dueBalances("nothing more is paid", x, -14, 4);
    }

    private static void otherKindsGrow() {
        LetHoles greedy = Check.dairy("DO0Hm01");
        greedy.day();
        check.due("greedy: the second by the first", greedy.hole(0, 3), Check.bits(12, 7, 2));
        check.dueBalances("greedy pays for both", greedy, -2);
        LetHoles blind = Check.dairy("DO0Hm02");
        Check.days(blind, 3);
        check.due("blind", blind.hole(0, 3), Check.bits(12));
        LetHoles through = Check.dairy("DO0Hr03");
        int[] taken = {2, 7, 12};
        int cells = Check.bits(17);
        for (int cell : taken) {
            through.day();
            cells |= 1 << cell;
            check.due("through takes its column", through.hole(0, 3), cells);
        }
        through.day();
        check.due("through has no more", through.hole(0, 3), cells);
        LetHoles over = Check.dairy("DO2Hc03");
        over.eat(0, 7);
        over.day();
        check.due("through goes over what is eaten", over.hole(0, 3), Check.bits(2, 12));
        check.dueBalances("a gleaner's hole pays for paste", over, -1);
        LetHoles order = Check.dairy("DO0O0Hb00Ha10");
        order.day();
        check.due("hole 0 takes ahead of hole 1: 2, then 5", order.count(4), Check.bits(0, 1, 2, 5));
    }

    private static void monksGiveNothing() {
        LetHoles x = Check.dairy("DO1O0R10R21Hc01");
        x.day();
        check.due("first it takes row 0", x.hole(0, 3), Check.bits(2, 1, 0));
        Check.days(x, 3);
        check.due("a monk's row shuts it in, its own hole too", x.hole(0, 3), Check.bits(0, 1, 2, 3, 4));
        LetHoles through = Check.dairy("DO1O0R10R21Hc13");
        through.day();
        check.due("through passes over a monk's paste", through.hole(0, 3), Check.bits(2, 12));
        check.dueBalances("its own paste is not paid", through, 0, 0);
    }

    private static void holesWed() {
        LetHoles like = Check.dairy("DO0O0Ha00Hc10");
        check.due("like ones: weddings", like.day(), 1);
        check.due("like ones: the least has all", like.hole(0, 3), Check.bits(0, 1, 2, 3));
        check.due("like ones: the other is gone", like.hole(1, 1), Check.NONE);
        check.due("like ones: owner of the least", like.hole(0, 1), 0);
        LetHoles larger = Check.dairy("DO0O0Ha02Hb11");
        larger.let(0, 1);
        larger.let(1, 0);
        check.due("beside at first they are two", larger.count(6), Check.bits(0, 1));
        check.due("the larger one wins", larger.day(), 1);
        check.due("it has all", larger.hole(1, 3), Check.bits(0, 1, 2, 3));
        check.due("it stays let", larger.hole(1, 2), 0);
        check.due("the other is not let", larger.hole(0, 2), Check.NONE);
        check.dueBalances("growth and rent of the winner alone", larger, -4, 2);
        // 0 and 1 stand apart; 2 is beside both: 0 weds 2, then what is joined weds 1.
        LetHoles three = Check.dairy("DO0Ha02Hc02Hb02");
        check.due("three in a row", three.day(), 2);
        check.due("the first has all", three.hole(0, 3), Check.bits(0, 1, 2));
        LetHoles chain = Check.dairy("DO0Ha02Hb02Hc02Hd02He02");
        check.due("five in a row", chain.day(), 4);
        check.due("one is left", chain.count(6), Check.bits(0));
        check.due("rows' ends are not beside", Check.dairy("DO0He02Hf02").day(), 0);
    }

    private static void rentsArePaid() {
        LetHoles x = Check.dairy("DO0O0O3Hm02Ha01");
        x.let(0, 1);
        x.day();
        check.dueBalances("a tenant pays a cell; greedy took two", x, 1 - 2, -1, 0);
        x.let(1, 2);
        x.day();
        // Hole 1 has five cells now: 0, 1, 2, 3, 4; a miser pays two of them.
        check.due("five cells", x.hole(1, 4), 5);
        check.dueBalances("a miser pays half, cut", x, -1 + 1 - 2 + 2, -2, -2);
        LetHoles one = Check.dairy("DO0O3Hm02");
        one.let(0, 1);
        one.day();
        check.dueBalances("half of one is nothing", one, 0, 0);
        LetHoles owner = Check.dairy("DO3O0Hm02");
        owner.let(0, 1);
        owner.day();
        check.dueBalances("a miser that owns has all of it", owner, 1, -1);
    }

    private static void fifthHole() {
        LetHoles x = Check.dairy("DO0O0Ha02Hc02He02Hk02Ht11");
        check.due("whose is its cell", x.cell(19, 2), 1);
        x.let(4, 0);
        check.due("it takes 14 and 9 and weds hole 2", x.day(), 1);
        check.due("its cells", x.hole(4, 3), Check.bits(4, 9, 14, 19));
        check.due("cells of its owner", x.owner(1, 4), 4);
        check.dueBalances("its rent is paid", x, -4, 4 - 2);
        check.due("its owner's cells in rests", x.rests(0, 1, 0), 1);
        x.sell(4, 0);
        check.due("sold, let no more", x.hole(4, 2), Check.NONE);
        check.due("undone", x.undo(), 2);
        check.due("whose it was", x.hole(4, 1), 1);
        check.due("to whom it was let", x.hole(4, 2), 0);
        check.due("undone, ahead of the day", x.undo(), 1);
        check.due("its cell alone", x.hole(4, 3), Check.bits(19));
        x.eat(1, 19);
        check.due("its cell is eaten", x.hole(4, 1), Check.NONE);
    }

    private static void eats() {
        LetHoles x = Check.dairy("DO0O2R00R11Ha11Hs00");
        check.due("own paste", x.eat(0, 1), 0);
        check.dueBalances("own paste costs nothing", x, 0, 0);
        check.due("another one's paste", x.eat(0, 5), 1);
        check.dueBalances("it costs 1", x, -1, 1);
        check.due("nobody's paste", x.eat(0, 10), Check.NONE);
        check.dueBalances("it costs 1 all the same", x, -2, 1);
        check.due("another one's hole", x.eat(0, 0), 1);
        check.dueBalances("it costs 1 too", x, -3, 2);
        check.due("that hole is gone", x.hole(0, 1), Check.NONE);
        check.due("a gleaner eats another one's paste", x.eat(1, 2), 0);
        check.due("a gleaner eats nobody's paste", x.eat(1, 11), Check.NONE);
        check.dueBalances("a gleaner pays nothing for paste", x, -3, 2);
        check.due("a gleaner eats a hole's cell", x.eat(1, 18), 0);
        check.dueBalances("a gleaner pays for holes", x, -2, 1);
        check.due("eaten", x.count(5), Check.bits(0, 1, 2, 5, 10, 11, 18));
        check.due("eaten already", x.eat(1, 18), Check.STATE);
        check.due("eat(2, 3)", x.eat(2, 3), Check.UNKNOWN);
        check.due("eat(-1, 3)", x.eat(-1, 3), Check.UNKNOWN);
        check.due("eat(0, 20)", x.eat(0, 20), Check.UNKNOWN);
        check.due("eat(0, -1)", x.eat(0, -1), Check.UNKNOWN);
        check.due("refused ones are no acts", x.count(7), 7);
        LetHoles monk = Check.dairy("DO0O1R01");
        check.due("a monk's paste can be eaten", monk.eat(0, 0), 1);
    }

    private static void lets() {
        LetHoles x = Check.dairy("DO0O0O0Ha00Ht12");
        check.due("let to its own", x.let(0, 0), Check.STATE);
        check.due("let at first", x.let(0, 1), Check.NONE);
        check.due("let to the same", x.let(0, 1), Check.STATE);
        check.due("let to another one", x.let(0, 2), 1);
        check.due("to whom", x.hole(0, 2), 2);
        check.due("whose", x.hole(0, 1), 0);
        check.due("let(2, 0)", x.let(2, 0), Check.UNKNOWN);
        check.due("let(-1, 0)", x.let(-1, 0), Check.UNKNOWN);
        check.due("let(0, 3)", x.let(0, 3), Check.UNKNOWN);
        check.due("let(0, -9)", x.let(0, -9), Check.UNKNOWN);
        x.eat(0, 19);
        check.due("let when gone", x.let(1, 0), Check.STATE);
        check.due("UNKNOWN comes first", x.let(1, 3), Check.UNKNOWN);
        check.due("refused ones are no acts", x.count(7), 3);
    }

    private static void sells() {
        LetHoles x = Check.dairy("DO0O0O0Ha01Ht12");
        x.day();
        x.let(0, 1);
        check.due("sold to its own", x.sell(0, 0), Check.STATE);
        check.due("sold to a third one", x.sell(0, 2), 3);
        check.dueBalances("it pays its cells", x, -2 + 3, 0, -3);
        check.due("it stays let", x.hole(0, 2), 1);
        check.due("whose", x.hole(0, 1), 2);
        check.due("sold to who has it", x.sell(0, 1), 3);
        check.due("it is let no more", x.hole(0, 2), Check.NONE);
        check.dueBalances("it pays its cells too", x, 1, -3, 0);
        check.due("holes of owner 1", x.owner(1, 3), Check.bits(0, 1));
        check.due("sell(2, 0)", x.sell(2, 0), Check.UNKNOWN);
        check.due("sell(-1, 0)", x.sell(-1, 0), Check.UNKNOWN);
        check.due("sell(0, 3)", x.sell(0, 3), Check.UNKNOWN);
        check.due("sell(0, -9)", x.sell(0, -9), Check.UNKNOWN);
        x.eat(0, 19);
        check.due("sold when gone", x.sell(1, 0), Check.STATE);
        check.due("refused ones are no acts", x.count(7), 5);
    }

    private static void undoes() {
        LetHoles x = Check.dairy("DO0O0R01Ha00Hc10");
        check.due("nothing to undo", x.undo(), Check.STATE);
        x.let(0, 1);
        x.sell(0, 1);
        x.eat(0, 0);
        x.day();
        check.due("undo of a day", x.undo(), 3);
        check.due("the day is back", x.count(3), 0);
        check.due("cells are back", x.count(4), Check.bits(2));
        check.dueBalances("balances are back", x, 1 - 1, -1 + 1);
        check.due("undo of eaten", x.undo(), 2);
        check.due("nothing is eaten", x.count(5), 0);
        check.due("the hole is back", x.hole(0, 1), 1);
        check.due("undo of sold", x.undo(), 1);
        check.due("whose it was", x.hole(0, 1), 0);
        check.due("to whom it was let", x.hole(0, 2), 1);
        check.dueBalances("paid back", x, 0, 0);
        check.due("undo of let", x.undo(), 0);
        check.due("not let", x.hole(0, 2), Check.NONE);
        check.due("nothing more", x.undo(), Check.STATE);
        Check.days(x, 16);
        check.due("14 acts at most", x.count(7), 14);
        for (int left = 13; left >= 0; left--) {
            check.due("undo", x.undo(), left);
            check.due("the day of undo", x.count(3), left + 2);
        }
        check.due("the first two days are forgotten", x.count(3), 2);
        check.due("nothing more", x.undo(), Check.STATE);
    }
}

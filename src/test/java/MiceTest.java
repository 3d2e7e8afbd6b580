/** Promises 14 to 19: ways, what is gnawed, weddings and days ahead, cuts, doings judged. */
public final class MiceTest {
    private static final Check check = new Check();

    public static void main(String[] args) {
        ways();
        gnaws();
        weddingsAhead();
        daysAhead();
        cuts();
        judges();
        check.end();
    }

    private static void ways() {
        LetHoles x = Check.dairy("DO0Ha02Hb02Hh02");
        check.due("to the same, of paste", x.way(19, 19), 0);
        check.due("to the next", x.way(0, 1), 1);
        check.due("no way", x.way(0, 7), Check.NONE);
        x.eat(0, 6);
        check.due("by an eaten cell", x.way(0, 7), 3);
        check.due("back again", x.way(7, 0), 3);
        check.due("an end of paste", x.way(0, 2), Check.NONE);
        check.due("a start of paste", x.way(2, 1), Check.NONE);
        LetHoles round = Check.dairy("DO0");
        for (int cell : new int[] {0, 5, 10, 15, 16, 17, 18, 19, 14, 9, 4, 3, 2, 7}) {
            round.eat(0, cell);
        }
        check.due("a long way", round.way(0, 7), 13);
        check.due("a row's end is not beside the next row", round.way(4, 5), 9);
        check.due("way(20, 0)", x.way(20, 0), Check.UNKNOWN);
        check.due("way(0, -1)", x.way(0, -1), Check.UNKNOWN);
        check.due("way(20, 20)", x.way(20, 20), Check.UNKNOWN);
    }

    private static void gnaws() {
        LetHoles x = Check.dairy("DO0O1R11Ha02He02");
        check.due("to the same", x.gnaw(5, 5), 0);
        check.due("hole to hole", x.gnaw(0, 4), 3);
        check.due("both ends count", x.gnaw(1, 3), 3);
        check.due("one end counts", x.gnaw(0, 3), 3);
        check.due("a monk's row is shut", x.gnaw(0, 10), Check.NONE);
        check.due("a monk's cell is no end", x.gnaw(0, 5), Check.NONE);
        check.due("a monk's cell is no start", x.gnaw(5, 0), Check.NONE);
        x.eat(0, 9);
        check.due("by an eaten one", x.gnaw(0, 10), 8);
        check.due("from an eaten one", x.gnaw(9, 14), 1);
        LetHoles far = Check.dairy("DO0");
        for (int cell : new int[] {0, 5, 10, 15, 16, 17, 12, 7, 2, 3, 4}) {
            far.eat(0, cell);
        }
        check.due("nothing to gnaw", far.gnaw(0, 4), 0);
        check.due("a gnawed end alone", far.gnaw(0, 19), 2);
        check.due("gnaw(20, 0)", x.gnaw(20, 0), Check.UNKNOWN);
        check.due("gnaw(0, -1)", x.gnaw(0, -1), Check.UNKNOWN);
    }

    private static void weddingsAhead() {
        LetHoles x = Check.dairy("DO0Ha00He02Ht02Hf02");
        // Hole 0 takes 1, 2, 3: on the third day it is beside hole 1; hole 3 it weds on the first.
        check.due("wedding(0, 1)", x.wedding(0, 1), 3);
        check.due("wedding(1, 0)", x.wedding(1, 0), 3);
        check.due("wedding(0, 3)", x.wedding(0, 3), 1);
        check.due("one of both is gone by a third", x.wedding(1, 2), 3);
        check.due("nothing is changed", x.count(3), 0);
        check.due("no act", x.count(7), 0);
        check.due("both are one", x.wedding(1, 1), Check.OUTSIDE);
        check.due("wedding(0, 4)", x.wedding(0, 4), Check.UNKNOWN);
        check.due("wedding(-1, 0)", x.wedding(-1, 0), Check.UNKNOWN);
        check.due("UNKNOWN comes first", x.wedding(4, 4), Check.UNKNOWN);
        x.eat(0, 19);
        check.due("one is gone", x.wedding(2, 1), 0);
        check.due("both of one that is gone", x.wedding(2, 2), Check.OUTSIDE);
        LetHoles never = Check.dairy("DO0Ha02Ht02");
        check.due("never", never.wedding(0, 1), Check.NONE);
        LetHoles late = Check.dairy("DO0Ha00Ht02");
        check.due("behind all rows but the last's end", late.wedding(0, 1), 14);
    }

    private static void daysAhead() {
        LetHoles x = Check.dairy("DO0Ha00Hc01Ht02");
        check.due("ahead(0, 0)", x.ahead(0, 0), Check.bits(0, 1, 2));
        check.due("ahead(0, 1)", x.ahead(0, 1), 17);
        // Hole 0 takes 1, hole 1 takes 3 and 4 and is the larger one.
        check.due("ahead(1, 0)", x.ahead(1, 0), Check.bits(1, 2));
        check.due("ahead(1, 1)", x.ahead(1, 1), 14);
        check.due("ahead(20, 1)", x.ahead(20, 1), 0);
        check.due("nothing is changed", x.count(4), Check.bits(0, 2, 19));
        check.dueBalances("nothing is paid", x, 0);
        check.due("ahead(-1, 0)", x.ahead(-1, 0), Check.OUTSIDE);
        check.due("ahead(21, 0)", x.ahead(21, 0), Check.OUTSIDE);
        check.due("ahead(0, 2)", x.ahead(0, 2), Check.OUTSIDE);
        check.due("ahead(0, -1)", x.ahead(0, -1), Check.OUTSIDE);
    }

    private static void cuts() {
        LetHoles x = Check.dairy("DO0O0R00R11");
        // Each column by which is cut gives one the lesser and the other one the rest: always 5.
        check.due("like ones: the least", x.cut(0, 1, 0), 1);
        check.due("like ones: how many", x.cut(0, 1, 1), 5);
        LetHoles left = Check.dairy("DO0O0R00R11Hk00Hl00Hm00Hp00");
        check.due("holes count: which", left.cut(0, 1, 0), 3);
        check.due("holes count: how many", left.cut(0, 1, 1), 3 + 4 + 2);
        check.due("the other way: which", left.cut(1, 0, 0), 1);
        check.due("the other way: how many", left.cut(1, 0, 1), 1 + 4 + 2);
        left.eat(0, 0);
        check.due("eaten cells are nobody's", left.cut(0, 1, 1), 8);
        LetHoles none = Check.dairy("DO0O0");
        check.due("nothing: which", none.cut(0, 1, 0), 1);
        check.due("nothing: how many", none.cut(0, 1, 1), 0);
        check.due("cut(0, 2, 0)", none.cut(0, 2, 0), Check.UNKNOWN);
        check.due("cut(-1, 0, 0)", none.cut(-1, 0, 0), Check.UNKNOWN);
        check.due("both are one", none.cut(1, 1, 0), Check.OUTSIDE);
        check.due("cut(0, 1, 2)", none.cut(0, 1, 2), Check.OUTSIDE);
        check.due("cut(0, 1, -1)", none.cut(0, 1, -1), Check.OUTSIDE);
        check.due("UNKNOWN comes first", none.cut(2, 2, 2), Check.UNKNOWN);
    }

    private static void judges() {
        LetHoles x = Check.dairy("DO0O0Ha00Ht12");
        check.due("a day", x.judge(1, 0L), Check.NONE);
        check.due("three days", x.judge(3, 0L), Check.NONE);
        check.due("eat", x.judge(1, 1119L), Check.NONE);
        check.due("eat twice", x.judge(2, 10071007L), 1);
        check.due("eat, another day, eat", x.judge(3, 100700001107L), 2);
        check.due("eat cell 20", x.judge(1, 1020L), 0);
        check.due("eat by owner 2", x.judge(1, 1200L), 0);
        check.due("let", x.judge(1, 2001L), Check.NONE);
        check.due("let to its own", x.judge(1, 2000L), 0);
        check.due("let twice", x.judge(2, 20012001L), 1);
        check.due("sell", x.judge(1, 3001L), Check.NONE);
        check.due("sell twice", x.judge(2, 30013001L), 1);
        check.due("sell there and back", x.judge(2, 30013000L), Check.NONE);
        check.due("let, sell to who has it, let to the other", x.judge(3, 200130012000L), Check.NONE);
        check.due("sell, then let to its new owner", x.judge(2, 30012001L), 1);
        check.due("a hole that is eaten is sold", x.judge(2, 10003001L), 1);
        check.due("a third figure of let", x.judge(1, 2011L), 0);
        check.due("a third figure of sell", x.judge(1, 3011L), 0);
        check.due("figures behind a day's 0", x.judge(1, 1L), 0);
        check.due("more figures behind a day's 0", x.judge(1, 100L), 0);
        check.due("no such doing", x.judge(1, 4000L), 0);
        check.due("no such doing, last", x.judge(3, 9999L), 2);
        check.due("no hole 2", x.judge(1, 2201L), 0);
        check.due("nothing is changed", x.count(5) + x.count(7), 0);
        check.due("judge(0, 0)", x.judge(0, 0L), Check.OUTSIDE);
        check.due("judge(4, 0)", x.judge(4, 0L), Check.OUTSIDE);
        check.due("below 0", x.judge(1, -1L), Check.OUTSIDE);
        check.due("five figures", x.judge(1, 10000L), Check.OUTSIDE);
        check.due("four figures", x.judge(1, 9999L), 0);
        check.due("nine figures", x.judge(2, 100000000L), Check.OUTSIDE);
        check.due("thirteen figures", x.judge(3, 1000000000000L), Check.OUTSIDE);
        check.due("twelve figures", x.judge(3, 999999999999L), 0);
        check.due("the greatest", x.judge(3, Long.MAX_VALUE), Check.OUTSIDE);
        check.due("the least", x.judge(3, Long.MIN_VALUE), Check.OUTSIDE);
    }
}

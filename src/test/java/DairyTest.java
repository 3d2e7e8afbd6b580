/** Promises 1 to 8 and 30: a new object, the text, its faults, the dairy, and what is asked of it. */
public final class DairyTest {
    private static final Check check = new Check();

    public static void main(String[] args) {
        newObject();
        text();
        faults();
        makesDairy();
        asksOwners();
        asksHoles();
        asksCells();
        counts();
        check.end();
    }

    private static void newObject() {
        LetHoles x = new LetHoles();
        int[] counts = {0, 0, 0, 0, 0, 0, 0, 0, 0};
        for (int what = 0; what < counts.length; what++) {
            check.due("new: count(" + what + ")", x.count(what), counts[what]);
        }
        check.due("new: owner(0, 0)", x.owner(0, 0), Check.UNKNOWN);
        check.due("new: hole(0, 0)", x.hole(0, 0), Check.UNKNOWN);
        for (int cell = 0; cell < 20; cell++) {
            check.due("new: cell is paste", x.cell(cell, 0), 0);
            check.due("new: cell is of no hole", x.cell(cell, 1), Check.NONE);
            check.due("new: cell is nobody's", x.cell(cell, 2), Check.NONE);
        }
        check.due("new: seed", x.seed(0L), 0L);
    }

    private static void text() {
        LetHoles x = new LetHoles();
        check.due("write(-1)", x.write(-1), Check.OUTSIDE);
        check.due("write(256)", x.write(256), Check.OUTSIDE);
        check.due("write(least)", x.write(Integer.MIN_VALUE), Check.OUTSIDE);
        check.due("wipe of an empty text", x.wipe(), 0);
        check.due("write(0)", x.write(0), 1);
        check.due("write(255)", x.write(255), 2);
        for (int i = 3; i <= 48; i++) {
            check.due("write, letter " + i, x.write('D'), i);
        }
        check.due("write(-1) into a full text", x.write(-1), Check.OUTSIDE);
        check.due("write into a full text", x.write('D'), Check.FULL);
        check.due("count(0) when full", x.count(0), 48);
        check.due("wipe when full", x.wipe(), 48);
        check.due("count(0) when wiped", x.count(0), 0);
        check.due("write behind a wipe", x.write('D'), 1);
    }

    private static void dueFault(String text, int fault) {
        LetHoles x = new LetHoles();
        Check.tell(x, text);
        check.due("fault of '" + text + "'", x.fault(), fault);
        check.due("fault leaves the text", x.count(0), text.length());
        check.due("fault makes no dairy", x.count(1), 0);
        if (fault != Check.NONE) {
            check.due("dairy of '" + text + "'", x.dairy(), Check.STATE);
        }
    }

    private static void faults() {
        dueFault("", 0);
        dueFault("D", Check.NONE);
        dueFault("d", 0);
        dueFault("DD", 1);
        dueFault("D ", 1);
        dueFault("DO", 2);
        dueFault("DO3", Check.NONE);
        dueFault("DO/", 2);
        dueFault("DO4", 2);
        dueFault("DO0R4", 4);
        dueFault("DO0R/", 4);
        dueFault("DO0H`", 4);
        dueFault("DO0Hu", 4);
        dueFault("DO0Ha0/", 6);
        dueFault("DR", 1);
        dueFault("DH", 1);
        dueFault("DO0R", 4);
        dueFault("DO0R3", 5);
        dueFault("DO0R30", Check.NONE);
        dueFault("DO0R31", 5);
        dueFault("DO0R30R3", 7);
        dueFault("DO0R30R2", 8);
        dueFault("DO0H", 4);
        dueFault("DO0Ht", 5);
        dueFault("DO0Ht0", 6);
        dueFault("DO0Ht03", Check.NONE);
        dueFault("DO0HT", 4);
        dueFault("DO0Ht1", 5);
        dueFault("DO0Ht04", 6);
        dueFault("DO0Ht00Ht", 8);
        dueFault("DO0O1O2O3O", 9);
        dueFault("DO0Ha00Hb00Hc00Hd00He00", Check.NONE);
        dueFault("DO0Ha00Hb00Hc00Hd00He00H", 23);
        dueFault("DO0Ha00O0Hb10R01", Check.NONE);
        dueFault("DO0R00R10R20R30R", 15);
        dueFault("DO0R00XXXX", 6);
        dueFault("D" + (char) 0, 1);
        dueFault("DO0H" + (char) 255, 4);
    }

    private static void makesDairy() {
        LetHoles x = new LetHoles();
        Check.tell(x, "D");
        check.due("dairy of D", x.dairy(), 0);
        Check.tell(x, "DO0O3O1O2R00R11R22R33Ha00Hd11Hh22Ho33Hs10");
        check.due("the fullest dairy", x.dairy(), 45);
        check.due("the text stays", x.count(0), 41);
        x.eat(0, 19);
        x.let(0, 1);
        x.day();
        x.keep(0);
        x.taste(3, 1, 1);
        x.seed(77L);
        x.write('X');
        check.due("a fault refuses the dairy", x.dairy(), Check.STATE);
        check.due("what is refused changes nothing", x.count(7), 3);
        check.due("what is refused keeps the slot", x.again(0), 1);
        x.day();
        Check.tell(x, "DO2Hb03");
        check.due("dairy anew", x.dairy(), 11);
        check.due("anew: owners", x.count(1), 1);
        check.due("anew: holes", x.count(2), 1);
        check.due("anew: the day", x.count(3), 0);
        check.due("anew: cells of holes", x.count(4), Check.bits(1));
        check.due("anew: nothing is eaten", x.count(5), 0);
        check.due("anew: no acts", x.count(7), 0);
        check.due("anew: undo", x.undo(), Check.STATE);
        check.due("anew: nothing is kept", x.again(0), Check.STATE);
        check.due("anew: tasted stays", x.count(8), 1);
        check.due("anew: the seed stays", x.seed(0L), 77L);
        check.due("anew: balance", x.owner(0, 1), 0);
        check.due("anew: not let", x.hole(0, 2), Check.NONE);
        check.due("anew: rows are nobody's", x.owner(0, 2), 0);
        check.due("anew: owner 1", x.owner(1, 0), Check.UNKNOWN);
        check.due("anew: hole 1", x.hole(1, 0), Check.UNKNOWN);
    }

    private static void asksOwners() {
        LetHoles x = Check.dairy("DO0O3O1O2R01R21R32Hf10Hg11Ht02");
        int[] kinds = {0, 3, 1, 2};
        int[] rows = {0, Check.bits(0, 2), Check.bits(3), 0};
        int[] holes = {Check.bits(2), Check.bits(0, 1), 0, 0};
        int[] cells = {1, 12, 4, 0};
        for (int owner = 0; owner < 4; owner++) {
            check.due("owner(" + owner + ", 0)", x.owner(owner, 0), kinds[owner]);
            check.due("owner(" + owner + ", 1)", x.owner(owner, 1), 0);
            check.due("owner(" + owner + ", 2)", x.owner(owner, 2), rows[owner]);
            check.due("owner(" + owner + ", 3)", x.owner(owner, 3), holes[owner]);
            check.due("owner(" + owner + ", 4)", x.owner(owner, 4), cells[owner]);
        }
        x.eat(0, 2);
        check.due("eaten paste is nobody's", x.owner(1, 4), 11);
        check.due("its row stays", x.owner(1, 2), Check.bits(0, 2));
        x.eat(0, 5);
        check.due("a hole that is gone is nobody's", x.owner(1, 3), Check.bits(1));
        check.due("owner(4, 0)", x.owner(4, 0), Check.UNKNOWN);
        check.due("owner(-1, 0)", x.owner(-1, 0), Check.UNKNOWN);
        check.due("owner(0, 5)", x.owner(0, 5), Check.OUTSIDE);
        check.due("owner(0, -1)", x.owner(0, -1), Check.OUTSIDE);
        check.due("UNKNOWN comes first", x.owner(4, 5), Check.UNKNOWN);
    }

    private static void asksHoles() {
        LetHoles x = Check.dairy("DO0O0Hf10Ht03");
        check.due("hole(0, 0)", x.hole(0, 0), 0);
        check.due("hole(1, 0)", x.hole(1, 0), 3);
        check.due("hole(0, 1)", x.hole(0, 1), 1);
        check.due("hole(0, 2)", x.hole(0, 2), Check.NONE);
        check.due("hole(0, 3)", x.hole(0, 3), Check.bits(5));
        check.due("hole(1, 3)", x.hole(1, 3), Check.bits(19));
        check.due("hole(0, 4)", x.hole(0, 4), 1);
        x.let(0, 0);
        check.due("hole(0, 2) when let", x.hole(0, 2), 0);
        x.eat(0, 5);
        check.due("gone: its kind", x.hole(0, 0), 0);
        check.due("gone: whose", x.hole(0, 1), Check.NONE);
        check.due("gone: to whom", x.hole(0, 2), Check.NONE);
        check.due("gone: its cells", x.hole(0, 3), 0);
        check.due("gone: how many", x.hole(0, 4), 0);
        check.due("hole(2, 0)", x.hole(2, 0), Check.UNKNOWN);
        check.due("hole(-1, 0)", x.hole(-1, 0), Check.UNKNOWN);
        check.due("hole(1, 5)", x.hole(1, 5), Check.OUTSIDE);
        check.due("hole(1, -1)", x.hole(1, -1), Check.OUTSIDE);
        check.due("UNKNOWN comes first", x.hole(5, 5), Check.UNKNOWN);
    }

    private static void asksCells() {
        LetHoles x = Check.dairy("DO0O0R01Ha00Hg11");
        x.eat(0, 4);
        int[][] due = {
            {0, 1, 0, 0}, {1, 0, Check.NONE, 1}, {4, 2, Check.NONE, Check.NONE},
            {5, 0, Check.NONE, Check.NONE}, {6, 1, 1, 1}, {19, 0, Check.NONE, Check.NONE}};
        for (int[] row : due) {
            for (int what = 0; what < 3; what++) {
                check.due("cell(" + row[0] + ", " + what + ")", x.cell(row[0], what), row[what + 1]);
            }
        }
        check.due("cell(20, 0)", x.cell(20, 0), Check.UNKNOWN);
        check.due("cell(-1, 0)", x.cell(-1, 0), Check.UNKNOWN);
        check.due("cell(0, 3)", x.cell(0, 3), Check.OUTSIDE);
        check.due("cell(0, -1)", x.cell(0, -1), Check.OUTSIDE);
        check.due("UNKNOWN comes first", x.cell(20, 3), Check.UNKNOWN);
    }

    private static void counts() {
        LetHoles x = Check.dairy("DO0O1Ha00Hs12");
        x.day();
        x.eat(0, 0);
        x.taste(0, 0, 0);
        x.taste(0, 0, 0);
        int[] counts = {13, 2, 2, 1, Check.bits(1, 18), Check.bits(0), Check.bits(0, 1), 2, 2};
        for (int what = 0; what < counts.length; what++) {
            check.due("count(" + what + ")", x.count(what), counts[what]);
        }
        x.eat(0, 18);
        check.due("count(6), one gone", x.count(6), Check.bits(0));
        check.due("count(9)", x.count(9), Check.OUTSIDE);
        check.due("count(-1)", x.count(-1), Check.OUTSIDE);
    }
}

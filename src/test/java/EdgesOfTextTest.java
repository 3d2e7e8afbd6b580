/** Promises 1 to 5, and what ==== 1 tells of THE TEXT: each sentence that names an edge has a test of its own. */
public final class EdgesOfTextTest {
    private static final Check check = new Check();
    private static final String CELLS = "abcdefghijklmnopqrst";

    public static void main(String[] args) {
        newObjectHasNothing();
        newObjectCanBeUsed();
        lettersAre0To255();
        fortyEightLettersAreTheMost();
        writeTellsHowLong();
        wipeOfEmptyAndFull();
        firstLetterIsD();
        partsAreNoneOrMore();
        kindsOfOwnersAre0To3();
        ownersAre4AtMost();
        rowsAre0To3EachOnce();
        rowsArePartsOnlyAsLongAsOneIsLeft();
        pasteIsOfOwnersToldAhead();
        holesAreOfCellsAToT();
        holesAreWhereNoneIsToldYet();
        holesAreOfOwnersToldAhead();
        kindsOfHolesAre0To3();
        holesAre5AtMost();
        faultIsTheFirst();
        faultWhateverComesBehind();
        faultSetsLengthAside();
        faultIsLengthIfOnlyNotAtItsEnd();
        faultOfEmptyText();
        faultNone();
        dairyTellsOwnersAndHoles();
        dairyOfFaultIsState();
        dairyEmptiesTheRowOfActs();
        dairyLosesWhatWasKept();
        dairyLeavesTastedAndSeed();
        dairyIsAnew();
        dairyLeavesTheText();
        dairyHoldsNothingOfEarlierTexts();
        check.end();
    }

    private static LetHoles told(String text) {
        LetHoles x = new LetHoles();
        Check.tell(x, text);
        return x;
    }

    private static void dueFault(String text, int fault) {
        check.due("fault of '" + text + "'", told(text).fault(), fault);
    }

    /** Of all 256 letters just these may come behind the text: any other one is the fault, by its place. */
    private static void dueNext(String text, String may) {
        for (int letter = 0; letter < 256; letter++) {
            LetHoles x = told(text);
            x.write(letter);
            boolean isFault = x.fault() == text.length();
            check.due("'" + text + "', then " + letter, isFault ? 1 : 0, may.indexOf(letter) < 0 ? 1 : 0);
            if (isFault) {
                x.write('D');
                x.write('O');
                check.due("'" + text + "', then " + letter + ", and more", x.fault(), text.length());
            }
        }
    }

    /** Promise 1: "No owners, no holes." */
    private static void newObjectHasNothing() {
        LetHoles x = new LetHoles();
        for (int what = 0; what <= 8; what++) {
            check.due("new: count(" + what + ")", x.count(what), 0);
        }
        for (int i = 0; i < 5; i++) {
            check.due("new: no owner " + i, x.owner(i, 0), Check.UNKNOWN);
            check.due("new: no hole " + i, x.hole(i, 0), Check.UNKNOWN);
        }
        check.due("new: the text", x.fault(), 0);
        check.due("new: the seed", x.seed(1L), 0L);
    }

    private static void newObjectCanBeUsed() {
        LetHoles x = new LetHoles();
        check.due("new: a day", x.day(), 0);
        check.due("new: THE DAY is one more", x.count(3), 1);
        check.due("new: a day is an act", x.count(7), 1);
        check.due("new: undone", x.undo(), 0);
        check.due("new: all is paste", x.ahead(20, 1), 20);
        check.due("new: no holes are left", x.ahead(20, 0), 0);
        check.due("new: judged, a day can be", x.judge(3, 0L), Check.NONE);
        check.due("new: judged, nobody eats", x.judge(1, 1000L), 0);
        check.due("new: years", x.years(30), 0);
        check.due("new: kept", x.keep(1), 0);
        check.due("new: gone on from", x.again(1), 0);
        check.due("new: passes above", x.passes(0, 1, 5, true), 0);
        check.due("new: passes below", x.passes(0, 1, 5, false), 1);
        check.due("new: wipe", x.wipe(), 0);
        check.due("new: rinse", x.rinse(), 0);
    }

    /** Promise 2: "A letter (0 to 255)"; "OUTSIDE". */
    private static void lettersAre0To255() {
        LetHoles x = new LetHoles();
        for (int letter = 0; letter < 256; letter++) {
            if (letter % 48 == 0) {
                x.wipe();
            }
            check.due("write(" + letter + ")", x.write(letter), letter % 48 + 1);
        }
        for (int letter : new int[] {-1, 256, -256, 'D' + 256, 'D' - 256, Integer.MIN_VALUE, Integer.MAX_VALUE}) {
            check.due("write(" + letter + ")", x.write(letter), Check.OUTSIDE);
            check.due("count(0) behind it", x.count(0), 256 % 48);
        }
    }

    /** "THE TEXT is letters (48 at most)"; "FULL: there are 48." */
    private static void fortyEightLettersAreTheMost() {
        LetHoles x = new LetHoles();
        for (int i = 1; i <= 48; i++) {
            check.due("letter " + i, x.write('D'), i);
        }
        for (int i = 0; i < 3; i++) {
            check.due("letter 49", x.write('D'), Check.FULL);
            check.due("count(0) stays", x.count(0), 48);
        }
        check.due("OUTSIDE is named first", x.write(256), Check.OUTSIDE);
        check.due("OUTSIDE is named first", x.write(-1), Check.OUTSIDE);
    }

    /** Promise 2: "comes behind THE TEXT: how long it is". */
    private static void writeTellsHowLong() {
        LetHoles x = new LetHoles();
        check.due("the first letter", x.write('O'), 1);
        check.due("the fault is by it", x.fault(), 0);
        x.wipe();
        check.due("the first letter anew", x.write('D'), 1);
        check.due("the second one comes behind", x.write('O'), 2);
        check.due("D, then O", x.fault(), 2);
    }

    /** Promise 3: "THE TEXT is empty: how long it was." */
    private static void wipeOfEmptyAndFull() {
        LetHoles x = new LetHoles();
        check.due("wipe of an empty one", x.wipe(), 0);
        x.write(0);
        check.due("wipe of one letter", x.wipe(), 1);
        check.due("wipe again", x.wipe(), 0);
        Check.tell(x, Dairies.FULLEST + "1234567");
        check.due("full", x.write('8'), Check.FULL);
        check.due("wipe of a full one", x.wipe(), 48);
        check.due("it is empty", x.count(0), 0);
        check.due("write into it", x.write('D'), 1);
        check.due("nothing of what was is left", x.fault(), Check.NONE);
        LetHoles made = Check.dairy("DO0Ha00");
        check.due("wipe behind dairy()", made.wipe(), 7);
        check.due("the dairy stays", made.count(4), 1);
    }

    /** "A DAIRY is a TEXT: D, then PARTS". */
    private static void firstLetterIsD() {
        dueNext("", "D");
    }

    /** "PARTS, none or more". */
    private static void partsAreNoneOrMore() {
        check.due("none", told("D").dairy(), 0);
        check.due("one", told("DO0").dairy(), 10);
        dueNext("D", "O");
        dueNext("DO0", "ORH");
        dueNext("DO0R00", "ORH");
        dueNext("DO0Ha00", "ORH");
        check.due("owners behind rows and holes", told("DO0R00Ha00O1R11Hb11").dairy(), 22);
    }

    /** "Ok: an OWNER of KIND k: 0 PLAIN, 1 MONK, 2 GLEANER, 3 MISER". */
    private static void kindsOfOwnersAre0To3() {
        dueNext("DO", "0123");
        dueNext("DO0O", "0123");
        for (int kind = 0; kind < 4; kind++) {
            check.due("kind " + kind, Check.dairy("DO" + kind).owner(0, 0), kind);
        }
    }

    /** "OWNERS (4 at most)". */
    private static void ownersAre4AtMost() {
        String text = "D";
        for (int owners = 1; owners <= 4; owners++) {
            dueNext(text, owners == 1 ? "O" : "ORH");
            text += "O" + owners % 4;
            check.due(owners + " owners", told(text).dairy(), 10 * owners);
        }
        dueNext(text, "RH");
        dueNext(text + "R00", "RH");
    }

    /** "the PASTE of ROW r (0 to 3; each once)". */
    private static void rowsAre0To3EachOnce() {
        dueNext("DO0R", "0123");
        dueNext("DO0R00R", "123");
        dueNext("DO0R10R", "023");
        dueNext("DO0R20R", "013");
        dueNext("DO0R30R", "012");
        dueNext("DO0O0R00R21R30R", "1");
        dueFault("DO0O0R00R01", 9);
    }

    private static void rowsArePartsOnlyAsLongAsOneIsLeft() {
        dueNext("DO0R00R10R20", "ORH");
        dueNext("DO0R00R10R20R30", "OH");
        dueNext("DO0O0R31R20R11R00", "OH");
    }

    /** "is OWNER p's (told ahead)". */
    private static void pasteIsOfOwnersToldAhead() {
        dueFault("DR", 1);
        dueNext("DO0R0", "0");
        dueNext("DO0O0R0", "01");
        dueNext("DO0O0O0R0", "012");
        dueNext("DO0O0O0O0R0", "0123");
        dueFault("DO0R01O0", 5);
        check.due("told ahead, behind a row", told("DO0R00O0R11").dairy(), 20);
    }

    /** "a HOLE of CELL c", "CELLS, told by letters a to t (a is 0, b 1, .. t 19)". */
    private static void holesAreOfCellsAToT() {
        dueNext("DO0H", CELLS);
        for (int cell = 0; cell < 20; cell++) {
            check.due("cell " + CELLS.charAt(cell), Check.dairy("DO0H" + CELLS.charAt(cell) + "00").count(4), 1 << cell);
        }
    }

    /** "(where none is told yet)". */
    private static void holesAreWhereNoneIsToldYet() {
        for (char c : new char[] {'a', 'j', 't'}) {
            dueNext("DO0H" + c + "00H", CELLS.replace("" + c, ""));
        }
        dueNext("DO0Ha00Hb00Hs00Ht00H", "cdefghijklmnopqr");
    }

    /** "of OWNER p (told ahead)". */
    private static void holesAreOfOwnersToldAhead() {
        dueFault("DH", 1);
        dueNext("DO0Ha", "0");
        dueNext("DO0O0Ha", "01");
        dueNext("DO0O0O0Ha", "012");
        dueNext("DO0O0O0O0Ha", "0123");
        dueFault("DO0Ha10O0", 5);
        check.due("told ahead, behind a hole", told("DO0Ha00O0Hb10").dairy(), 22);
    }

    /** "of KIND k: 0 PLAIN, 1 GREEDY, 2 BLIND, 3 THROUGH". */
    private static void kindsOfHolesAre0To3() {
        dueNext("DO0Ha0", "0123");
        for (int kind = 0; kind < 4; kind++) {
            check.due("kind " + kind, Check.dairy("DO0Ha0" + kind).hole(0, 0), kind);
        }
    }

    /** "HOLES (5 at most)". */
    private static void holesAre5AtMost() {
        String text = "DO0";
        for (int holes = 1; holes <= 5; holes++) {
            dueNext(text, "ORH");
            text += "H" + CELLS.charAt(4 * holes - 1) + "02";
            check.due(holes + " holes", told(text).dairy(), 10 + holes);
        }
        dueNext(text, "OR");
        dueNext(text + "O0", "OR");
    }

    /** "the place of the first letter by which THE TEXT can be no DAIRY". */
    private static void faultIsTheFirst() {
        dueFault("XD", 0);
        dueFault("DO4R4", 2);
        dueFault("DO0R4O4", 4);
        dueFault("DO0R00R0O9", 7);
        dueFault("DO0Ha00Ha00Hz", 8);
        dueFault("DO0Hz9", 4);
    }

    /** "whatever came behind it". */
    private static void faultWhateverComesBehind() {
        for (String behind : new String[] {"", "0", "O0", "Ha00", "DO0Ha00", "xyz"}) {
            dueFault("D0" + behind, 1);
            dueFault("DO0R0" + "1" + behind, 5);
            dueFault("DO0Ha0" + "4" + behind, 6);
        }
    }

    /** "(its length set aside)": no dairy is longer than 41 letters, so that 42 are a fault by their last. */
    private static void faultSetsLengthAside() {
        check.due("the fullest", Dairies.FULLEST.length(), 41);
        dueFault(Dairies.FULLEST, Check.NONE);
        dueNext(Dairies.FULLEST, "");
        dueFault(Dairies.FULLEST + "ORHORHO", 41);
        dueFault("DO0O0O0O0R00R10R20R30Ha00Hb00Hc00Hd00He00".substring(0, 40), 40);
    }

    /** "its length, if it is only not at its end". */
    private static void faultIsLengthIfOnlyNotAtItsEnd() {
        String ends = "0 1 3 5 7 9 12 15 18 21 25 29 33 37 41 ";
        for (int n = 0; n <= 41; n++) {
            boolean isEnd = n > 0 && (" " + ends).contains(" " + n + " ");
            dueFault(Dairies.FULLEST.substring(0, n), isEnd ? Check.NONE : n);
        }
    }

    private static void faultOfEmptyText() {
        LetHoles x = new LetHoles();
        check.due("of no text", x.fault(), 0);
        Check.tell(x, "DO");
        x.wipe();
        check.due("of a wiped one", x.fault(), 0);
    }

    /** "NONE: none." */
    private static void faultNone() {
        dueFault("D", Check.NONE);
        dueFault("DO0", Check.NONE);
        dueFault("DO0R00", Check.NONE);
        dueFault("DO0Ha00", Check.NONE);
    }

    /** Promise 5: "10 times OWNERS, and HOLES". */
    private static void dairyTellsOwnersAndHoles() {
        check.due("none", told("D").dairy(), 0);
        check.due("owners alone", told("DO0O0O0O0").dairy(), 40);
        check.due("one and five", told("DO0Ha00Hb00Hc00Hd00He00").dairy(), 15);
        check.due("rows are not counted", told("DO0R00R10R20R30").dairy(), 10);
        check.due("the fullest", told(Dairies.FULLEST).dairy(), 45);
    }

    /** "STATE: a FAULT." Also of a text that is only not at its end. */
    private static void dairyOfFaultIsState() {
        String[] faulty = {"", "X", "DO", "DO4", "DR", "DH", "DO0R", "DO0R0", "DO0R01", "DO0H", "DO0Ha", "DO0Ha0",
            "DO0Ha04", "DO0Ha00Ha", "DO0O0O0O0O", Dairies.FULLEST + "O"};
        for (String text : faulty) {
            LetHoles x = Check.dairy("DO3Hq03");
            x.day();
            Check.tell(x, text);
            check.due("dairy of '" + text + "'", x.dairy(), Check.STATE);
            check.due("the dairy stays: owners", x.count(1), 1);
            check.due("the dairy stays: the kind", x.owner(0, 0), 3);
            check.due("the dairy stays: its hole", x.hole(0, 3), Check.bits(16, 1));
            check.due("the dairy stays: the hole's kind", x.hole(0, 0), 3);
            check.due("the text stays", x.count(0), text.length());
            x.day();
            check.due("the dairy goes on", x.hole(0, 3), Check.bits(16, 1, 6));
            check.due("the day goes on", x.count(3), 2);
        }
    }

    /** "THE ROW of ACTS is empty". */
    private static void dairyEmptiesTheRowOfActs() {
        LetHoles x = Check.dairy("DO0Ha00");
        Check.days(x, 14);
        check.due("acts ahead of it", x.count(7), 14);
        check.due("dairy anew", x.dairy(), 11);
        check.due("no acts", x.count(7), 0);
        check.due("undo", x.undo(), Check.STATE);
        x.day();
        check.due("one act", x.count(7), 1);
        check.due("undone", x.undo(), 0);
        check.due("no more", x.undo(), Check.STATE);
    }

    /** "what was kept is gone". */
    private static void dairyLosesWhatWasKept() {
        LetHoles x = Check.dairy("DO0Ha00");
        x.keep(0);
        x.keep(1);
        x.dairy();
        check.due("slot 0", x.again(0), Check.STATE);
        check.due("slot 1", x.again(1), Check.STATE);
        x.keep(1);
        check.due("slot 0 still", x.again(0), Check.STATE);
        check.due("slot 1 kept anew", x.again(1), 0);
    }

    /** "TASTED, THE SEED stay". */
    private static void dairyLeavesTastedAndSeed() {
        LetHoles x = new LetHoles();
        x.taste(5, 0, 1);
        x.seed(-7L);
        Check.tell(x, "DO0Ha00");
        x.dairy();
        check.due("tasted", x.count(8), 1);
        check.due("tasted still so", x.began(2), Check.bits(5));
        check.due("the seed", x.seed(0L), -7L);
    }

    /** "THE DAY is 0, nothing is EATEN, LET, all BALANCES are 0, when THE DAIRY is made anew." */
    private static void dairyIsAnew() {
        LetHoles x = Check.dairy("DO0O0O0O0Ha00Hk10Ht20");
        x.let(0, 1);
        x.let(1, 2);
        x.sell(2, 3);
        x.eat(3, 7);
        Check.days(x, 2);
        Check.tell(x, "DO0O0O0O0Ha00Hk10Ht20");
        check.due("dairy", x.dairy(), 43);
        check.due("THE DAY", x.count(3), 0);
        check.due("nothing is eaten", x.count(5), 0);
        for (int hole = 0; hole < 3; hole++) {
            check.due("not let", x.hole(hole, 2), Check.NONE);
            check.due("whose it was told", x.hole(hole, 1), hole);
        }
        check.dueBalances("all balances", x, 0, 0, 0, 0);
        check.due("holes as told", x.count(4), Check.bits(0, 10, 19));
    }

    private static void dairyLeavesTheText() {
        LetHoles x = told("DO0");
        x.dairy();
        check.due("the text", x.count(0), 3);
        check.due("it can go on", x.write('O'), 4);
        check.due("its fault", x.fault(), 4);
        check.due("the dairy does not", x.count(1), 1);
    }

    /** Made anew, whatever dairies were made, and texts looked at, ahead of it. */
    private static void dairyHoldsNothingOfEarlierTexts() {
        LetHoles x = Check.dairy("DO1O1O1O1R00R11R22R33Ha31Hb31Hc31Hd31He31");
        Check.tell(x, "DO1R00R10R20R30");
        x.dairy();
        Check.tell(x, "DO1O1R00R11R20R31Ht11Hs1");
        x.fault();
        Check.tell(x, "DO0O0Hk00");
        check.due("the third dairy", x.dairy(), 21);
        for (int cell = 0; cell < 20; cell++) {
            check.due("nobody's paste, " + cell, x.cell(cell, 2), cell == 10 ? 0 : Check.NONE);
        }
        check.due("no rows", x.owner(0, 2) + x.owner(1, 2), 0);
        check.due("no monk's paste", x.gnaw(4, 19), 4);
        x.day();
        check.due("it grows", x.count(4), Check.bits(5, 10));
        check.due("one hole is left", x.ahead(20, 0), 1);
        check.due("in 20 days it has all", x.ahead(20, 1), 0);
    }
}

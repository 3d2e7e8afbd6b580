import java.util.Arrays;

/**
 * The dairy in which holes are let separately from the paste around them.
 *
 * Sets of cells, of owners and of holes are held as bits of an int, so that a call makes no object:
 * all rows that a call works on are made with the object and used again.
 */
public final class LetHoles {
    public static final int UNKNOWN = -1, OUTSIDE = -2, STATE = -3, FULL = -4, NONE = -9;

    private static final int CELLS = 20;
    private static final int ROWS = 4;
    private static final int COLUMNS = 5;
    private static final int MOST_OWNERS = 4;
    private static final int MOST_HOLES = 5;
    private static final int MOST_LETTERS = 48;
    private static final int MOST_ACTS = 14;
    private static final int MOST_TASTED = 6;
    private static final int KINDS = 4;

    private static final int MONK = 1;
    private static final int GLEANER = 2;
    private static final int MISER = 3;

    private static final int GREEDY = 1;
    private static final int BLIND = 2;
    private static final int THROUGH = 3;

    private static final int MOST_DAYS_AHEAD = 20;
    private static final int MOST_DAYS_TASTED = 9;
    private static final int MOST_DOINGS = 3;
    private static final int MOST_YEARS = 30;
    private static final int TENTHS = 10;

    private static final long DOING = 10000L;
    private static final long SEED_TIMES = 6364136223846793005L;
    private static final long SEED_AND = 1442695040888963407L;
    private static final int LOTS = 28;

    private static final int[] FACTORIALS = {1, 1, 2, 6, 24};

    private final int[] text = new int[MOST_LETTERS];
    private int letters = 0;

    private Deeds deeds = new Deeds();
    private Deeds draft = new Deeds();
    private final Deeds lone = new Deeds();

    private final Wheel wheel = new Wheel();
    private final Wheel trial = new Wheel();
    private final Acts acts = new Acts();

    private final Wheel[] slots = {new Wheel(), new Wheel()};
    private int keptSlots = 0;

    private final Tasted tasted = new Tasted();
    private long theSeed = 0L;

    public LetHoles() {
    }

    // ---- the dairy

    public int write(int letter) {
        if (letter < 0 || letter > 255) {
            return OUTSIDE;
        }
        if (letters < 0 || letters >= MOST_LETTERS) {
            return FULL;
        }
        text[letters] = letter;
        letters++;
        return letters;
    }

    public int wipe() {
        int before = letters;
        letters = 0;
        return before;
    }

    public int fault() {
        return draft.readAll(text, letters);
    }

    public int dairy() {
        if (draft.readAll(text, letters) != NONE) {
            return STATE;
        }
        Deeds old = deeds;
        deeds = draft;
        draft = old;
        wheel.beginWith(deeds);
        acts.forgetAll();
        keptSlots = 0;
        return 10 * deeds.owners + deeds.holes;
    }

    public int owner(int owner, int what) {
        if (!deeds.hasOwner(owner)) {
            return UNKNOWN;
        }
        switch (what) {
            case 0:
                return Rows.get(deeds.ownerKind, owner);
            case 1:
                return Rows.get(wheel.balance, owner);
            case 2:
                return deeds.rowsOf(owner);
            case 3:
                return wheel.holesOf(owner);
            case 4:
                return Integer.bitCount(wheel.ownedBy(deeds, 1 << owner));
            default:
                return OUTSIDE;
        }
    }

    public int hole(int hole, int what) {
        if (!deeds.hasHole(hole)) {
            return UNKNOWN;
        }
        switch (what) {
            case 0:
                return Rows.get(deeds.holeKind, hole);
            case 1:
                return Rows.get(wheel.ownerOf, hole);
            case 2:
                return Rows.get(wheel.tenantOf, hole);
            case 3:
                return wheel.cellsOfHole(hole);
            case 4:
                return wheel.sizeOfHole(hole);
            default:
                return OUTSIDE;
        }
    }

    public int cell(int cell, int what) {
        if (!Grid.hasCell(cell)) {
            return UNKNOWN;
        }
        switch (what) {
            case 0:
                return wheel.stuffAt(cell);
            case 1:
                return wheel.holeAt(cell);
            case 2:
                return wheel.ownerAt(deeds, cell);
            default:
                return OUTSIDE;
        }
    }

    // ---- acts

    public int day() {
        acts.remember(wheel);
        return wheel.passDay(deeds);
    }

    public int eat(int owner, int cell) {
        int refusal = wheel.refusalToEat(deeds, owner, cell);
        if (refusal != 0) {
            return refusal;
        }
        acts.remember(wheel);
        return wheel.eatCell(deeds, owner, cell);
    }

    public int let(int hole, int owner) {
        int refusal = wheel.refusalToLet(deeds, hole, owner);
        if (refusal != 0) {
            return refusal;
        }
        acts.remember(wheel);
        return wheel.letHole(hole, owner);
    }

    public int sell(int hole, int owner) {
        int refusal = wheel.refusalToSell(deeds, hole, owner);
        if (refusal != 0) {
            return refusal;
        }
        acts.remember(wheel);
        return wheel.sellHole(hole, owner);
    }

    public int undo() {
        if (acts.size < 1) {
            return STATE;
        }
        acts.takeBack(wheel);
        return acts.size;
    }

    // ---- mice, weddings, cuts

    public int way(int cell, int other) {
        if (!Grid.hasCell(cell) || !Grid.hasCell(other)) {
            return UNKNOWN;
        }
        return Grid.steps(cell, other, wheel.openCells());
    }

    public int gnaw(int cell, int other) {
        if (!Grid.hasCell(cell) || !Grid.hasCell(other)) {
            return UNKNOWN;
        }
        return Grid.fewestGnawed(cell, other, wheel.openCells(), wheel.softPaste(deeds));
    }

    public int wedding(int hole, int other) {
        if (!deeds.hasHole(hole) || !deeds.hasHole(other)) {
            return UNKNOWN;
        }
        if (hole == other) {
            return OUTSIDE;
        }
        trial.copyFrom(wheel);
        for (int days = 0; days <= MOST_DAYS_AHEAD; days++) {
            if (trial.isGone(hole) || trial.isGone(other)) {
                return days;
            }
            trial.passDay(deeds);
        }
        return NONE;
    }

    public int ahead(int n, int what) {
        if (n < 0 || n > MOST_DAYS_AHEAD || what < 0 || what > 1) {
            return OUTSIDE;
        }
        trial.copyFrom(wheel);
        for (int days = 0; days < n; days++) {
            trial.passDay(deeds);
        }
        return what == 0 ? trial.holesLeft() : Integer.bitCount(trial.pasteCells());
    }

    public int cut(int one, int other, int what) {
        if (!deeds.hasOwner(one) || !deeds.hasOwner(other)) {
            return UNKNOWN;
        }
        if (one == other || what < 0 || what > 1) {
            return OUTSIDE;
        }
        int ones = wheel.ownedBy(deeds, 1 << one);
        int others = wheel.ownedBy(deeds, 1 << other);
        int bestColumn = 1;
        int best = -1;
        for (int column = 1; column < COLUMNS; column++) {
            int left = Grid.cellsLeftOf(column);
            int both = Integer.bitCount(ones & left) + Integer.bitCount(others & ~left);
            if (both > best) {
                best = both;
                bestColumn = column;
            }
        }
        return what == 0 ? bestColumn : best;
    }

    public int judge(int n, long row) {
        if (n < 1 || n > MOST_DOINGS) {
            return OUTSIDE;
        }
        long unit = 1L;
        for (int i = 1; i < n; i++) {
            unit *= DOING;
        }
        if (row < 0L || row / unit >= DOING) {
            return OUTSIDE;
        }
        trial.copyFrom(wheel);
        long rest = row;
        for (int place = 0; place < n; place++) {
            // The first doing stands in the upper figures; what was looked at is moved out of the way.
            int doing = (int) (rest / unit);
            rest = (rest % unit) * DOING;
            if (!trial.doTold(deeds, doing)) {
                return place;
            }
        }
        return NONE;
    }

    // ---- tasted

    public int taste(int cell, int n, int hole) {
        if (!Grid.hasCell(cell)) {
            return UNKNOWN;
        }
        if (n < 0 || n > MOST_DAYS_TASTED || hole < 0 || hole > 1) {
            return OUTSIDE;
        }
        if (tasted.size >= MOST_TASTED) {
            return FULL;
        }
        tasted.addOne(cell, n, hole == 1);
        return tasted.size;
    }

    public int rinse() {
        int before = tasted.size;
        tasted.size = 0;
        return before;
    }

    public int began(int kind) {
        if (kind < 0 || kind >= KINDS) {
            return OUTSIDE;
        }
        lone.tellLoneHole(kind);
        int found = 0;
        for (int start = 0; start < CELLS; start++) {
            if (mayHaveBegun(start)) {
                found |= 1 << start;
            }
        }
        return found;
    }

    private boolean mayHaveBegun(int start) {
        trial.beginWith(lone);
        trial.putLoneHole(start);
        for (int days = 0; days <= MOST_DAYS_TASTED; days++) {
            if (!tasted.agrees(days, trial.holeCells())) {
                return false;
            }
            trial.passDay(lone);
        }
        return true;
    }

    // ---- shares, rests, chances

    public int share(int owner, boolean upper) {
        if (!deeds.hasOwner(owner)) {
            return UNKNOWN;
        }
        int own = 1 << owner;
        int everybody = (1 << deeds.owners) - 1;
        int sum = 0;
        for (int come = 0; come < (1 << MOST_OWNERS); come++) {
            if ((come & ~everybody) == 0 && (come & own) == 0) {
                int earlier = Integer.bitCount(come);
                // So many orders have just these ones ahead of the owner.
                int orders = Rows.get(FACTORIALS, earlier) * Rows.get(FACTORIALS, deeds.owners - 1 - earlier);
                sum += orders * (largestEstate(come | own) - largestEstate(come));
            }
        }
        return partOfFraction(sum, Rows.get(FACTORIALS, deeds.owners), upper);
    }

    private int largestEstate(int owners) {
        return Grid.largestPatch(wheel.ownedBy(deeds, owners));
    }

    public int rests(int one, int other, int what) {
        if (!deeds.hasOwner(one) || !deeds.hasOwner(other)) {
            return UNKNOWN;
        }
        if (one == other || what < 0 || what > 1) {
            return OUTSIDE;
        }
        int onesCells = wheel.holeCellsOf(one);
        int othersCells = wheel.holeCellsOf(other);
        int found = 0;
        int first = NONE;
        for (int asked = 1; asked <= 2; asked++) {
            for (int answered = 1; answered <= 2; answered++) {
                if (isContent(asked, answered, onesCells) && isContent(answered, asked, othersCells)) {
                    if (found == 0) {
                        first = 10 * asked + answered;
                    }
                    found++;
                }
            }
        }
        return what == 0 ? found : first;
    }

    private static boolean isContent(int asked, int against, int cells) {
        return hasByAsking(3 - asked, against, cells) <= hasByAsking(asked, against, cells);
    }

    private static int hasByAsking(int asked, int against, int cells) {
        if (asked == against) {
            return asked;
        }
        return asked < against ? cells : 0;
    }

    public int passes(int cell, int other, int x, boolean upper) {
        if (!Grid.hasCell(cell) || !Grid.hasCell(other)) {
            return UNKNOWN;
        }
        if (x < 0 || x > TENTHS) {
            return OUTSIDE;
        }
        int left = wheel.holesLeft();
        int above = 0;
        int below = 1;
        for (int hole = 0; hole < MOST_HOLES; hole++) {
            if ((left & (1 << hole)) != 0) {
                below *= TENTHS;
            }
        }
        for (int shut = 0; shut < (1 << MOST_HOLES); shut++) {
            if ((shut & ~left) == 0 && Grid.steps(cell, other, wheel.openBut(shut)) != NONE) {
                above += weightOfShut(shut, left, x);
            }
        }
        return partOfFraction(above, below, upper);
    }

    private static int weightOfShut(int shut, int left, int x) {
        int weight = 1;
        for (int hole = 0; hole < MOST_HOLES; hole++) {
            int bit = 1 << hole;
            if ((left & bit) != 0) {
                weight *= (shut & bit) != 0 ? x : TENTHS - x;
            }
        }
        return weight;
    }

    public long seed(long v) {
        long before = theSeed;
        theSeed = v;
        return before;
    }

    public int years(int m) {
        if (m < 1 || m > MOST_YEARS) {
            return OUTSIDE;
        }
        trial.copyFrom(wheel);
        for (int i = 0; i < m; i++) {
            theSeed = theSeed * SEED_TIMES + SEED_AND;
            int lot = (int) ((theSeed >>> 33) % LOTS);
            if (lot >= CELLS) {
                trial.passDay(deeds);
            } else if (trial.refusalToEat(deeds, 0, lot) == 0) {
                trial.eatCell(deeds, 0, lot);
            }
        }
        return Integer.bitCount(trial.holeCells());
    }

    // ---- slots

    public int keep(int slot) {
        Wheel kept = slotAt(slot);
        if (kept == null) {
            return UNKNOWN;
        }
        kept.copyFrom(wheel);
        keptSlots |= 1 << slot;
        return wheel.days;
    }

    public int again(int slot) {
        Wheel kept = slotAt(slot);
        if (kept == null) {
            return UNKNOWN;
        }
        if ((keptSlots & (1 << slot)) == 0) {
            return STATE;
        }
        wheel.copyFrom(kept);
        acts.forgetAll();
        return wheel.days;
    }

    private Wheel slotAt(int slot) {
        return slot >= 0 && slot < slots.length ? slots[slot] : null;
    }

    public int count(int what) {
        switch (what) {
            case 0:
                return letters;
            case 1:
                return deeds.owners;
            case 2:
                return deeds.holes;
            case 3:
                return wheel.days;
            case 4:
                return wheel.holeCells();
            case 5:
                return wheel.eaten;
            case 6:
                return wheel.holesLeft();
            case 7:
                return acts.size;
            case 8:
                return tasted.size;
            default:
                return OUTSIDE;
        }
    }

    private static int partOfFraction(int above, int below, boolean upper) {
        int big = Math.abs(above);
        int small = below;
        // Euclid's steps over ints are fewer than 64.
        for (int i = 0; i < 64 && small != 0; i++) {
            int rest = big % small;
            big = small;
            small = rest;
        }
        int divisor = big < 1 ? 1 : big;
        return upper ? above / divisor : below / divisor;
    }

    /** Rows of numbers whose index is looked at each time. */
    private static final class Rows {
        static int get(int[] row, int at) {
            return at >= 0 && at < row.length ? row[at] : NONE;
        }

        static void put(int[] row, int at, int value) {
            if (at >= 0 && at < row.length) {
                row[at] = value;
            }
        }

        static void add(int[] row, int at, int value) {
            if (at >= 0 && at < row.length) {
                row[at] += value;
            }
        }
    }

    /** The cells of a wheel and how they lie, whatever they are. */
    private static final class Grid {
        private static final int ALL = (1 << CELLS) - 1;
        private static final int FIRST_ROW = (1 << COLUMNS) - 1;
        private static final int FIRST_COLUMN = 0x8421;
        private static final int LAST_COLUMN = FIRST_COLUMN << (COLUMNS - 1);

        static boolean hasCell(int cell) {
            return cell >= 0 && cell < CELLS;
        }

        static int bitOf(int cell) {
            return hasCell(cell) ? 1 << cell : 0;
        }

        static int rowCells(int row) {
            return row >= 0 && row < ROWS ? FIRST_ROW << (COLUMNS * row) : 0;
        }

        static int cellsLeftOf(int column) {
            int left = 0;
            for (int i = 0; i < COLUMNS; i++) {
                if (i < column) {
                    left |= FIRST_COLUMN << i;
                }
            }
            return left;
        }

        static int leastOf(int cells) {
            return cells & -cells;
        }

        static int beside(int cells) {
            int upAndDown = (cells << COLUMNS) | (cells >>> COLUMNS);
            int right = (cells & ~LAST_COLUMN) << 1;
            int left = (cells & ~FIRST_COLUMN) >>> 1;
            return (upAndDown | right | left) & ALL;
        }

        static int columnsOf(int cells) {
            int columns = 0;
            for (int i = 0; i < COLUMNS; i++) {
                int column = FIRST_COLUMN << i;
                if ((cells & column) != 0) {
                    columns |= column;
                }
            }
            return columns;
        }

        static int flood(int from, int through) {
            int reached = from;
            for (int step = 0; step < CELLS; step++) {
                int more = reached | (beside(reached) & through);
                if (more == reached) {
                    return reached;
                }
                reached = more;
            }
            return reached;
        }

        static int largestPatch(int cells) {
            int rest = cells;
            int largest = 0;
            for (int i = 0; i < CELLS && rest != 0; i++) {
                int patch = flood(leastOf(rest), rest);
                largest = Math.max(largest, Integer.bitCount(patch));
                rest &= ~patch;
            }
            return largest;
        }

        static int steps(int from, int to, int open) {
            if (from == to) {
                return 0;
            }
            int goal = bitOf(to);
            int reached = bitOf(from) & open;
            for (int step = 1; step < CELLS; step++) {
                reached |= beside(reached) & open;
                if ((reached & goal) != 0) {
                    return step;
                }
            }
            return NONE;
        }

        static int fewestGnawed(int from, int to, int open, int soft) {
            if (from == to) {
                return 0;
            }
            int goal = bitOf(to);
            int reached = bitOf(from) & open;
            // What is reached at first is free; each round gnaws one cell more.
            for (int gnawed = 0; gnawed <= CELLS; gnawed++) {
                reached = flood(reached, open);
                if ((reached & goal) != 0) {
                    return gnawed;
                }
                reached |= (beside(reached) | bitOf(from)) & soft;
            }
            return NONE;
        }
    }

    /** What the text of a dairy tells, read letter by letter: what no day and no act changes. */
    private static final class Deeds {
        private static final int AHEAD_OF_ALL = 0;
        private static final int BETWEEN_PARTS = 'D';

        int owners = 0;
        int holes = 0;
        final int[] ownerKind = new int[MOST_OWNERS];
        final int[] rowOwner = new int[ROWS];
        final int[] holeKind = new int[MOST_HOLES];
        final int[] holeOwner = new int[MOST_HOLES];
        final int[] holeCell = new int[MOST_HOLES];

        int monkCells = 0;

        private int rowsTold = 0;
        private int cellsTold = 0;
        private int part = AHEAD_OF_ALL;
        private int place = 0;
        private int toldFirst = 0;
        private int toldSecond = 0;

        Deeds() {
            Arrays.fill(rowOwner, NONE);
            Arrays.fill(holeOwner, NONE);
        }

        boolean hasOwner(int owner) {
            return owner >= 0 && owner < owners;
        }

        boolean hasHole(int hole) {
            return hole >= 0 && hole < holes;
        }

        int rowsOf(int owner) {
            int rows = 0;
            for (int row = 0; row < ROWS; row++) {
                if (rowOwner[row] == owner) {
                    rows |= 1 << row;
                }
            }
            return rows;
        }

        int rowCellsOf(int ownerBits) {
            int cells = 0;
            for (int row = 0; row < ROWS; row++) {
                int owner = rowOwner[row];
                if (hasOwner(owner) && (ownerBits & (1 << owner)) != 0) {
                    cells |= Grid.rowCells(row);
                }
            }
            return cells;
        }

        /** How often a hole takes a cell on a day. */
        int turnsOf(int hole) {
            if (!hasHole(hole)) {
                return 0;
            }
            switch (Rows.get(holeKind, hole)) {
                case GREEDY:
                    return 2;
                case BLIND:
                    return 0;
                default:
                    return 1;
            }
        }

        void tellLoneHole(int kind) {
            forget();
            addHole(0, NONE, kind);
        }

        private void forget() {
            owners = 0;
            holes = 0;
            Arrays.fill(rowOwner, NONE);
            Arrays.fill(holeOwner, NONE);
            monkCells = 0;
            rowsTold = 0;
            cellsTold = 0;
            part = AHEAD_OF_ALL;
            place = 0;
        }

        /** Answers the fault of the text, and holds what it tells if there is none. */
        int readAll(int[] text, int length) {
            forget();
            for (int i = 0; i < length && i < text.length; i++) {
                if (!reads(text[i])) {
                    return i;
                }
            }
            return part == BETWEEN_PARTS ? NONE : length;
        }

        private boolean reads(int letter) {
            switch (part) {
                case AHEAD_OF_ALL:
                    part = BETWEEN_PARTS;
                    return letter == 'D';
                case BETWEEN_PARTS:
                    part = letter;
                    place = 0;
                    return opensPart(letter);
                case 'O':
                    return readsOwner(letter - '0');
                case 'R':
                    return readsRow(letter - '0');
                default:
                    return readsHole(letter);
            }
        }

        /** A part that no letters could bring to its end is a fault by its first letter. */
        private boolean opensPart(int letter) {
            switch (letter) {
                case 'O':
                    return owners < MOST_OWNERS;
                case 'R':
                    return owners > 0 && rowsTold != (1 << ROWS) - 1;
                case 'H':
                    return owners > 0 && holes < MOST_HOLES;
                default:
                    return false;
            }
        }

        private boolean readsOwner(int kind) {
            if (kind < 0 || kind >= KINDS) {
                return false;
            }
            Rows.put(ownerKind, owners, kind);
            owners++;
            part = BETWEEN_PARTS;
            return true;
        }

        private boolean readsRow(int figure) {
            if (place == 0) {
                place = 1;
                toldFirst = figure;
                return figure >= 0 && figure < ROWS && (rowsTold & (1 << figure)) == 0;
            }
            if (!hasOwner(figure)) {
                return false;
            }
            Rows.put(rowOwner, toldFirst, figure);
            rowsTold |= 1 << toldFirst;
            if (Rows.get(ownerKind, figure) == MONK) {
                monkCells |= Grid.rowCells(toldFirst);
            }
            part = BETWEEN_PARTS;
            return true;
        }

        private boolean readsHole(int letter) {
            int figure = letter - '0';
            switch (place) {
                case 0:
                    place = 1;
                    toldFirst = letter - 'a';
                    return Grid.hasCell(toldFirst) && (cellsTold & Grid.bitOf(toldFirst)) == 0;
                case 1:
                    place = 2;
                    toldSecond = figure;
                    return hasOwner(figure);
                default:
                    if (figure < 0 || figure >= KINDS) {
                        return false;
                    }
                    addHole(toldFirst, toldSecond, figure);
                    part = BETWEEN_PARTS;
                    return true;
            }
        }

        private void addHole(int cell, int owner, int kind) {
            Rows.put(holeCell, holes, cell);
            Rows.put(holeOwner, holes, owner);
            Rows.put(holeKind, holes, kind);
            cellsTold |= Grid.bitOf(cell);
            holes++;
        }
    }

    /** What days and acts change: what cells are, whose holes are, who has them, balances, the day. */
    private static final class Wheel {
        final int[] cellsOf = new int[MOST_HOLES];
        final int[] ownerOf = new int[MOST_HOLES];
        final int[] tenantOf = new int[MOST_HOLES];
        final int[] balance = new int[MOST_OWNERS];
        int eaten = 0;
        int days = 0;

        Wheel() {
            Arrays.fill(ownerOf, NONE);
            Arrays.fill(tenantOf, NONE);
        }

        void copyFrom(Wheel other) {
            System.arraycopy(other.cellsOf, 0, cellsOf, 0, MOST_HOLES);
            System.arraycopy(other.ownerOf, 0, ownerOf, 0, MOST_HOLES);
            System.arraycopy(other.tenantOf, 0, tenantOf, 0, MOST_HOLES);
            System.arraycopy(other.balance, 0, balance, 0, MOST_OWNERS);
            eaten = other.eaten;
            days = other.days;
        }

        void beginWith(Deeds deeds) {
            for (int hole = 0; hole < MOST_HOLES; hole++) {
                boolean told = deeds.hasHole(hole);
                cellsOf[hole] = told ? Grid.bitOf(deeds.holeCell[hole]) : 0;
                ownerOf[hole] = told ? deeds.holeOwner[hole] : NONE;
                tenantOf[hole] = NONE;
            }
            Arrays.fill(balance, 0);
            eaten = 0;
            days = 0;
        }

        void putLoneHole(int cell) {
            cellsOf[0] = Grid.bitOf(cell);
        }

        int cellsOfHole(int hole) {
            return hole >= 0 && hole < MOST_HOLES ? cellsOf[hole] : 0;
        }

        int sizeOfHole(int hole) {
            return Integer.bitCount(cellsOfHole(hole));
        }

        boolean isGone(int hole) {
            return cellsOfHole(hole) == 0;
        }

        int holesLeft() {
            int left = 0;
            for (int hole = 0; hole < MOST_HOLES; hole++) {
                if (cellsOf[hole] != 0) {
                    left |= 1 << hole;
                }
            }
            return left;
        }

        int holesOf(int owner) {
            int own = 0;
            for (int hole = 0; hole < MOST_HOLES; hole++) {
                if (ownerOf[hole] == owner) {
                    own |= 1 << hole;
                }
            }
            return own;
        }

        int cellsOfHoles(int holes) {
            int cells = 0;
            for (int hole = 0; hole < MOST_HOLES; hole++) {
                if ((holes & (1 << hole)) != 0) {
                    cells |= cellsOf[hole];
                }
            }
            return cells;
        }

        int holeCells() {
            int cells = 0;
            for (int hole = 0; hole < MOST_HOLES; hole++) {
                cells |= cellsOf[hole];
            }
            return cells;
        }

        int holeCellsOf(int owner) {
            return Integer.bitCount(cellsOfHoles(holesOf(owner)));
        }

        int openCells() {
            return holeCells() | eaten;
        }

        int openBut(int shutHoles) {
            return cellsOfHoles(~shutHoles) | eaten;
        }

        int pasteCells() {
            return Grid.ALL & ~(holeCells() | eaten);
        }

        /** The paste that may be taken and gnawed: a monk's may not. */
        int softPaste(Deeds deeds) {
            return Grid.ALL & ~(holeCells() | eaten | deeds.monkCells);
        }

        int ownedBy(Deeds deeds, int ownerBits) {
            int cells = deeds.rowCellsOf(ownerBits) & pasteCells();
            for (int hole = 0; hole < MOST_HOLES; hole++) {
                int owner = ownerOf[hole];
                if (deeds.hasOwner(owner) && (ownerBits & (1 << owner)) != 0) {
                    cells |= cellsOf[hole];
                }
            }
            return cells;
        }

        int stuffAt(int cell) {
            int bit = Grid.bitOf(cell);
            if ((eaten & bit) != 0) {
                return 2;
            }
            return (holeCells() & bit) != 0 ? 1 : 0;
        }

        int holeAt(int cell) {
            int bit = Grid.bitOf(cell);
            for (int hole = 0; hole < MOST_HOLES; hole++) {
                if ((cellsOf[hole] & bit) != 0) {
                    return hole;
                }
            }
            return NONE;
        }

        int ownerAt(Deeds deeds, int cell) {
            int hole = holeAt(cell);
            if (hole != NONE) {
                return Rows.get(ownerOf, hole);
            }
            boolean isPaste = (pasteCells() & Grid.bitOf(cell)) != 0;
            return isPaste ? Rows.get(deeds.rowOwner, cell / COLUMNS) : NONE;
        }

        /** What is nobody's is paid to nobody, and still counts for the payer. */
        private void pay(int payer, int payee, int amount) {
            if (payer != payee) {
                Rows.add(balance, payer, -amount);
                Rows.add(balance, payee, amount);
            }
        }

        int passDay(Deeds deeds) {
            for (int hole = 0; hole < MOST_HOLES; hole++) {
                int turns = deeds.turnsOf(hole);
                for (int i = 0; i < turns; i++) {
                    takeLeast(deeds, hole);
                }
            }
            int weddings = 0;
            // Each wedding leaves one hole fewer, so there are fewer of them than holes.
            while (weddings < MOST_HOLES && joinFirstPair()) {
                weddings++;
            }
            for (int hole = 0; hole < MOST_HOLES; hole++) {
                payRent(deeds, hole);
            }
            days++;
            return weddings;
        }

        private void takeLeast(Deeds deeds, int hole) {
            int own = cellsOfHole(hole);
            boolean isThrough = Rows.get(deeds.holeKind, hole) == THROUGH;
            int near = isThrough ? Grid.columnsOf(own) : Grid.beside(own);
            int taken = Grid.leastOf(near & softPaste(deeds));
            if (taken == 0) {
                return;
            }
            int cell = Integer.bitCount(taken - 1);
            pay(Rows.get(ownerOf, hole), Rows.get(deeds.rowOwner, cell / COLUMNS), 1);
            Rows.put(cellsOf, hole, own | taken);
        }

        private boolean joinFirstPair() {
            for (int one = 0; one < MOST_HOLES; one++) {
                int near = Grid.beside(cellsOf[one]);
                for (int other = one + 1; other < MOST_HOLES; other++) {
                    if ((near & cellsOf[other]) != 0) {
                        joinPair(one, other);
                        return true;
                    }
                }
            }
            return false;
        }

        private void joinPair(int one, int other) {
            boolean otherIsLarger = sizeOfHole(other) > sizeOfHole(one);
            int winner = otherIsLarger ? other : one;
            int loser = otherIsLarger ? one : other;
            Rows.put(cellsOf, winner, cellsOfHole(one) | cellsOfHole(other));
            Rows.put(cellsOf, loser, 0);
            endOwning(loser);
        }

        private void endOwning(int hole) {
            Rows.put(ownerOf, hole, NONE);
            Rows.put(tenantOf, hole, NONE);
        }

        private void payRent(Deeds deeds, int hole) {
            int tenant = Rows.get(tenantOf, hole);
            if (!deeds.hasOwner(tenant)) {
                return;
            }
            int rent = sizeOfHole(hole);
            if (Rows.get(deeds.ownerKind, tenant) == MISER) {
                rent /= 2;
            }
            pay(tenant, Rows.get(ownerOf, hole), rent);
        }

        int refusalToEat(Deeds deeds, int owner, int cell) {
            if (!deeds.hasOwner(owner) || !Grid.hasCell(cell)) {
                return UNKNOWN;
            }
            return (eaten & Grid.bitOf(cell)) != 0 ? STATE : 0;
        }

        int eatCell(Deeds deeds, int owner, int cell) {
            int bit = Grid.bitOf(cell);
            int whose = ownerAt(deeds, cell);
            boolean isGleaned = stuffAt(cell) == 0 && Rows.get(deeds.ownerKind, owner) == GLEANER;
            if (!isGleaned) {
                pay(owner, whose, 1);
            }
            for (int hole = 0; hole < MOST_HOLES; hole++) {
                cellsOf[hole] &= ~bit;
                if (cellsOf[hole] == 0) {
                    endOwning(hole);
                }
            }
            eaten |= bit;
            return whose;
        }

        int refusalToLet(Deeds deeds, int hole, int owner) {
            int refusal = refusalToSell(deeds, hole, owner);
            if (refusal != 0) {
                return refusal;
            }
            return Rows.get(tenantOf, hole) == owner ? STATE : 0;
        }

        int letHole(int hole, int owner) {
            int before = Rows.get(tenantOf, hole);
            Rows.put(tenantOf, hole, owner);
            return before;
        }

        int refusalToSell(Deeds deeds, int hole, int owner) {
            if (!deeds.hasHole(hole) || !deeds.hasOwner(owner)) {
                return UNKNOWN;
            }
            return isGone(hole) || Rows.get(ownerOf, hole) == owner ? STATE : 0;
        }

        int sellHole(int hole, int owner) {
            int size = sizeOfHole(hole);
            pay(owner, Rows.get(ownerOf, hole), size);
            Rows.put(ownerOf, hole, owner);
            // Nobody has a hole of its own let to it.
            if (Rows.get(tenantOf, hole) == owner) {
                Rows.put(tenantOf, hole, NONE);
            }
            return size;
        }

        /** Does what four figures tell; false, with nothing done, if it can not be. */
        boolean doTold(Deeds deeds, int doing) {
            int who = doing / 100 % 10;
            int whom = doing % 100;
            switch (doing / 1000) {
                case 0:
                    if (doing != 0) {
                        return false;
                    }
                    passDay(deeds);
                    return true;
                case 1:
                    if (refusalToEat(deeds, who, whom) != 0) {
                        return false;
                    }
                    eatCell(deeds, who, whom);
                    return true;
                // A third figure other than 0 makes "whom" a number that no owner has.
                case 2:
                    if (refusalToLet(deeds, who, whom) != 0) {
                        return false;
                    }
                    letHole(who, whom);
                    return true;
                case 3:
                    if (refusalToSell(deeds, who, whom) != 0) {
                        return false;
                    }
                    sellHole(who, whom);
                    return true;
                default:
                    return false;
            }
        }
    }

    /** The row of acts: for each the wheel as it was ahead of it, the last one at the end. */
    private static final class Acts {
        private final Wheel[] before = new Wheel[MOST_ACTS];
        int size = 0;

        Acts() {
            for (int i = 0; i < MOST_ACTS; i++) {
                before[i] = new Wheel();
            }
        }

        void forgetAll() {
            size = 0;
        }

        void remember(Wheel now) {
            if (size >= MOST_ACTS) {
                forgetFirst();
            }
            Wheel free = wheelAt(size);
            if (free != null) {
                free.copyFrom(now);
                size++;
            }
        }

        /** The wheel of the first act goes behind the others, to be used again. */
        private void forgetFirst() {
            Wheel first = before[0];
            for (int i = 1; i < MOST_ACTS; i++) {
                before[i - 1] = before[i];
            }
            before[MOST_ACTS - 1] = first;
            size = MOST_ACTS - 1;
        }

        void takeBack(Wheel now) {
            Wheel last = wheelAt(size - 1);
            if (last != null) {
                now.copyFrom(last);
                size--;
            }
        }

        private Wheel wheelAt(int at) {
            return at >= 0 && at < MOST_ACTS ? before[at] : null;
        }
    }

    /** What was tasted: of which cell, behind how many days, whether it was of a hole. */
    private static final class Tasted {
        private final int[] cells = new int[MOST_TASTED];
        private final int[] daysOf = new int[MOST_TASTED];
        private final boolean[] wasHole = new boolean[MOST_TASTED];
        int size = 0;

        void addOne(int cell, int days, boolean hole) {
            if (size >= 0 && size < MOST_TASTED) {
                cells[size] = cell;
                daysOf[size] = days;
                wasHole[size] = hole;
                size++;
            }
        }

        boolean agrees(int days, int holeCells) {
            for (int i = 0; i < MOST_TASTED && i < size; i++) {
                boolean isHole = (holeCells & Grid.bitOf(cells[i])) != 0;
                if (daysOf[i] == days && isHole != wasHole[i]) {
                    return false;
                }
            }
            return true;
        }
    }
}

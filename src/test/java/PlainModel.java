import java.util.ArrayDeque;
import java.util.ArrayList;
import java.util.List;
import java.util.regex.Matcher;
import java.util.regex.Pattern;

/**
 * The document told once more in the plainest way (cells one by one, all orders, all subsets, texts by
 * trying what could come behind them), to hold LetHoles against. It shares no code with it.
 */
final class PlainModel {
    static final int UNKNOWN = -1, OUTSIDE = -2, STATE = -3, FULL = -4, NONE = -9;
    private static final int PASTE = -1, EATEN = -2;
    private static final Pattern PART = Pattern.compile("O([0-3])|R([0-3])([0-3])|H([a-t])([0-3])([0-3])");
    private static final String ALPHABET = "DORH0123abcdefghijklmnopqrst";

    /** What acts change. */
    private static final class State {
        int[] at = new int[20];
        int[] whose = {NONE, NONE, NONE, NONE, NONE};
        int[] letTo = {NONE, NONE, NONE, NONE, NONE};
        int[] balance = new int[4];
        int day = 0;

        State() {
            for (int c = 0; c < 20; c++) {
                at[c] = PASTE;
            }
        }

        State copy() {
            State s = new State();
            s.at = at.clone();
            s.whose = whose.clone();
            s.letTo = letTo.clone();
            s.balance = balance.clone();
            s.day = day;
            return s;
        }

        int size(int hole) {
            int n = 0;
            for (int c = 0; c < 20; c++) {
                if (at[c] == hole) {
                    n++;
                }
            }
            return n;
        }
    }

    private String text = "";
    private List<Integer> ownerKinds = new ArrayList<>();
    private List<Integer> holeKinds = new ArrayList<>();
    private int[] rowOwner = {NONE, NONE, NONE, NONE};
    private State now = new State();
    private final List<State> acts = new ArrayList<>();
    private final State[] kept = new State[2];
    private final List<int[]> tasted = new ArrayList<>();
    private long seed = 0L;

    // ---- the dairy

    int write(int letter) {
        if (letter < 0 || letter > 255) {
            return OUTSIDE;
        }
        if (text.length() == 48) {
            return FULL;
        }
        text += (char) letter;
        return text.length();
    }

    int wipe() {
        int n = text.length();
        text = "";
        return n;
    }

    /** Whether a text is a dairy, by its parts. */
    static boolean isDairy(String s) {
        if (!s.startsWith("D")) {
            return false;
        }
        int owners = 0;
        int holes = 0;
        String rows = "";
        String cells = "";
        Matcher m = PART.matcher(s);
        int at = 1;
        while (at < s.length()) {
            m.region(at, s.length());
            if (!m.lookingAt()) {
                return false;
            }
            if (m.group(1) != null) {
                owners++;
            } else if (m.group(2) != null) {
                if (rows.contains(m.group(2)) || m.group(3).charAt(0) - '0' >= owners) {
                    return false;
                }
                rows += m.group(2);
            } else {
                if (cells.contains(m.group(4)) || m.group(5).charAt(0) - '0' >= owners) {
                    return false;
                }
                cells += m.group(4);
                holes++;
            }
            at = m.end();
        }
        return owners <= 4 && holes <= 5;
    }

    /** Whether some letters behind it make it a dairy: three are enough to end any part. */
    static boolean canBecomeDairy(String s, int more) {
        if (isDairy(s)) {
            return true;
        }
        for (int i = 0; more > 0 && i < ALPHABET.length(); i++) {
            if (canBecomeDairy(s + ALPHABET.charAt(i), more - 1)) {
                return true;
            }
        }
        return false;
    }

    int fault() {
        if (isDairy(text)) {
            return NONE;
        }
        for (int i = 1; i <= text.length(); i++) {
            if (!canBecomeDairy(text.substring(0, i), 3)) {
                return i - 1;
            }
        }
        return text.length();
    }

    int dairy() {
        if (!isDairy(text)) {
            return STATE;
        }
        ownerKinds = new ArrayList<>();
        holeKinds = new ArrayList<>();
        rowOwner = new int[] {NONE, NONE, NONE, NONE};
        now = new State();
        acts.clear();
        kept[0] = null;
        kept[1] = null;
        Matcher m = PART.matcher(text);
        while (m.find()) {
            if (m.group(1) != null) {
                ownerKinds.add(Integer.parseInt(m.group(1)));
            } else if (m.group(2) != null) {
                rowOwner[Integer.parseInt(m.group(2))] = Integer.parseInt(m.group(3));
            } else {
                now.at[m.group(4).charAt(0) - 'a'] = holeKinds.size();
                now.whose[holeKinds.size()] = Integer.parseInt(m.group(5));
                holeKinds.add(Integer.parseInt(m.group(6)));
            }
        }
        return 10 * ownerKinds.size() + holeKinds.size();
    }

    private boolean noOwner(int o) {
        return o < 0 || o >= ownerKinds.size();
    }

    private boolean noHole(int h) {
        return h < 0 || h >= holeKinds.size();
    }

    private static boolean noCell(int c) {
        return c < 0 || c > 19;
    }

    private int whoseCell(State s, int c) {
        if (s.at[c] == EATEN) {
            return NONE;
        }
        return s.at[c] == PASTE ? rowOwner[c / 5] : s.whose[s.at[c]];
    }

    int owner(int o, int what) {
        if (noOwner(o)) {
            return UNKNOWN;
        }
        int n = 0;
        switch (what) {
            case 0: return ownerKinds.get(o);
            case 1: return now.balance[o];
            case 2:
                for (int r = 0; r < 4; r++) {
                    n += rowOwner[r] == o ? 1 << r : 0;
                }
                return n;
            case 3:
                for (int h = 0; h < 5; h++) {
                    n += now.whose[h] == o ? 1 << h : 0;
                }
                return n;
            case 4:
                for (int c = 0; c < 20; c++) {
                    n += whoseCell(now, c) == o ? 1 : 0;
                }
                return n;
            default: return OUTSIDE;
        }
    }

    int hole(int h, int what) {
        if (noHole(h)) {
            return UNKNOWN;
        }
        int n = 0;
        switch (what) {
            case 0: return holeKinds.get(h);
            case 1: return now.whose[h];
            case 2: return now.letTo[h];
            case 3:
                for (int c = 0; c < 20; c++) {
                    n += now.at[c] == h ? 1 << c : 0;
                }
                return n;
            case 4: return now.size(h);
            default: return OUTSIDE;
        }
    }

    int cell(int c, int what) {
        if (noCell(c)) {
            return UNKNOWN;
        }
        switch (what) {
            case 0: return now.at[c] == PASTE ? 0 : now.at[c] == EATEN ? 2 : 1;
            case 1: return now.at[c] >= 0 ? now.at[c] : NONE;
            case 2: return whoseCell(now, c);
            default: return OUTSIDE;
        }
    }

    // ---- acts

    static boolean beside(int a, int b) {
        return Math.abs(a / 5 - b / 5) + Math.abs(a % 5 - b % 5) == 1;
    }

    private static void pay(State s, int from, int to, int n) {
        if (from == to) {
            return;
        }
        if (from != NONE) {
            s.balance[from] -= n;
        }
        if (to != NONE) {
            s.balance[to] += n;
        }
    }

    private void take(State s, int h, int kind) {
        for (int c = 0; c < 20; c++) {
            int payee = rowOwner[c / 5];
            if (s.at[c] != PASTE || payee != NONE && ownerKinds.get(payee) == 1) {
                continue;
            }
            for (int d = 0; d < 20; d++) {
                if (s.at[d] == h && (kind == 3 ? c % 5 == d % 5 : beside(c, d))) {
                    pay(s, s.whose[h], payee, 1);
                    s.at[c] = h;
                    return;
                }
            }
        }
    }

    private static boolean wed(State s) {
        for (int a = 0; a < 5; a++) {
            for (int b = 0; b < 5; b++) {
                for (int c = 0; a != b && c < 400; c++) {
                    if (s.at[c / 20] == a && s.at[c % 20] == b && beside(c / 20, c % 20)) {
                        int winner = s.size(a) > s.size(b) ? a : s.size(b) > s.size(a) ? b : Math.min(a, b);
                        int loser = a + b - winner;
                        for (int d = 0; d < 20; d++) {
                            s.at[d] = s.at[d] == loser ? winner : s.at[d];
                        }
                        s.whose[loser] = NONE;
                        s.letTo[loser] = NONE;
                        return true;
                    }
                }
            }
        }
        return false;
    }

    private int passDay(State s) {
        for (int h = 0; h < holeKinds.size(); h++) {
            int kind = holeKinds.get(h);
            if (kind != 2) {
                take(s, h, kind);
            }
            if (kind == 1) {
                take(s, h, kind);
            }
        }
        int weddings = 0;
        while (wed(s)) {
            weddings++;
        }
        for (int h = 0; h < 5; h++) {
            if (s.letTo[h] != NONE) {
                pay(s, s.letTo[h], s.whose[h], ownerKinds.get(s.letTo[h]) == 3 ? s.size(h) / 2 : s.size(h));
            }
        }
        s.day++;
        return weddings;
    }

    private int tryEat(State s, int o, int c) {
        if (noOwner(o) || noCell(c)) {
            return UNKNOWN;
        }
        if (s.at[c] == EATEN) {
            return STATE;
        }
        int was = whoseCell(s, c);
        int h = s.at[c];
        if (h != PASTE || ownerKinds.get(o) != 2) {
            pay(s, o, was, 1);
        }
        s.at[c] = EATEN;
        if (h >= 0 && s.size(h) == 0) {
            s.whose[h] = NONE;
            s.letTo[h] = NONE;
        }
        return was;
    }

    private int tryLet(State s, int h, int o) {
        if (noHole(h) || noOwner(o)) {
            return UNKNOWN;
        }
        if (s.size(h) == 0 || s.whose[h] == o || s.letTo[h] == o) {
            return STATE;
        }
        int had = s.letTo[h];
        s.letTo[h] = o;
        return had;
    }

    private int trySell(State s, int h, int o) {
        if (noHole(h) || noOwner(o)) {
            return UNKNOWN;
        }
        if (s.size(h) == 0 || s.whose[h] == o) {
            return STATE;
        }
        pay(s, o, s.whose[h], s.size(h));
        s.whose[h] = o;
        if (s.letTo[h] == o) {
            s.letTo[h] = NONE;
        }
        return s.size(h);
    }

    private static boolean refused(int answer) {
        return answer == UNKNOWN || answer == STATE;
    }

    private int acted(State before, int answer) {
        if (!refused(answer)) {
            acts.add(before);
            if (acts.size() > 14) {
                acts.remove(0);
            }
        }
        return answer;
    }

    int day() {
        State before = now.copy();
        return acted(before, passDay(now));
    }

    int eat(int o, int c) {
        State before = now.copy();
        return acted(before, tryEat(now, o, c));
    }

    int let(int h, int o) {
        State before = now.copy();
        return acted(before, tryLet(now, h, o));
    }

    int sell(int h, int o) {
        State before = now.copy();
        return acted(before, trySell(now, h, o));
    }

    int undo() {
        if (acts.isEmpty()) {
            return STATE;
        }
        now = acts.remove(acts.size() - 1);
        return acts.size();
    }

    // ---- mice, weddings, cuts

    /** Cheapest way by what cells cost to come upon; below 0 they are shut. */
    private static int cheapest(int from, int to, int[] cost) {
        if (from == to) {
            return 0;
        }
        int[] best = new int[20];
        java.util.Arrays.fill(best, 1000);
        best[from] = cost[from] < 0 ? 1000 : cost[from];
        for (int round = 0; round < 20; round++) {
            for (int c = 0; c < 20; c++) {
                for (int d = 0; d < 20; d++) {
                    if (beside(c, d) && cost[d] >= 0 && best[c] < 1000) {
                        best[d] = Math.min(best[d], best[c] + cost[d]);
                    }
                }
            }
        }
        return best[to] < 1000 ? best[to] : NONE;
    }

    private static int wayBy(int from, int to, boolean[] open) {
        if (from == to) {
            return 0;
        }
        if (!open[from]) {
            return NONE;
        }
        int[] steps = new int[20];
        java.util.Arrays.fill(steps, NONE);
        steps[from] = 0;
        ArrayDeque<Integer> queue = new ArrayDeque<>();
        queue.add(from);
        while (!queue.isEmpty()) {
            int c = queue.remove();
            for (int d = 0; d < 20; d++) {
                if (beside(c, d) && open[d] && steps[d] == NONE) {
                    steps[d] = steps[c] + 1;
                    queue.add(d);
                }
            }
        }
        return steps[to];
    }

    int way(int a, int b) {
        if (noCell(a) || noCell(b)) {
            return UNKNOWN;
        }
        boolean[] open = new boolean[20];
        for (int c = 0; c < 20; c++) {
            open[c] = now.at[c] != PASTE;
        }
        return wayBy(a, b, open);
    }

    int gnaw(int a, int b) {
        if (noCell(a) || noCell(b)) {
            return UNKNOWN;
        }
        int[] cost = new int[20];
        for (int c = 0; c < 20; c++) {
            int o = rowOwner[c / 5];
            boolean monks = o != NONE && ownerKinds.get(o) == 1;
            cost[c] = now.at[c] != PASTE ? 0 : monks ? -1 : 1;
        }
        return cheapest(a, b, cost);
    }

    int wedding(int h, int g) {
        if (noHole(h) || noHole(g)) {
            return UNKNOWN;
        }
        if (h == g) {
            return OUTSIDE;
        }
        State s = now.copy();
        for (int n = 0; n <= 20; n++) {
            if (s.size(h) == 0 || s.size(g) == 0) {
                return n;
            }
            passDay(s);
        }
        return NONE;
    }

    int ahead(int n, int what) {
        if (n < 0 || n > 20 || what < 0 || what > 1) {
            return OUTSIDE;
        }
        State s = now.copy();
        for (int i = 0; i < n; i++) {
            passDay(s);
        }
        return what == 0 ? alive(s) : s.size(PASTE);
    }

    private static int alive(State s) {
        int bits = 0;
        for (int h = 0; h < 5; h++) {
            bits += s.size(h) > 0 ? 1 << h : 0;
        }
        return bits;
    }

    int cut(int a, int b, int what) {
        if (noOwner(a) || noOwner(b)) {
            return UNKNOWN;
        }
        if (a == b || what < 0 || what > 1) {
            return OUTSIDE;
        }
        int[] sums = new int[5];
        for (int k = 1; k < 5; k++) {
            for (int c = 0; c < 20; c++) {
                sums[k] += whoseCell(now, c) == (c % 5 < k ? a : b) ? 1 : 0;
            }
        }
        int best = 1;
        for (int k = 4; k >= 1; k--) {
            best = sums[k] >= sums[best] ? k : best;
        }
        return what == 0 ? best : sums[best];
    }

    int judge(int n, long row) {
        if (n < 1 || n > 3 || row < 0 || String.valueOf(row).length() > 4 * n) {
            return OUTSIDE;
        }
        String figures = String.format("%0" + 4 * n + "d", row);
        State s = now.copy();
        for (int i = 0; i < n; i++) {
            String f = figures.substring(4 * i, 4 * i + 4);
            int second = f.charAt(1) - '0';
            int last = f.charAt(3) - '0';
            boolean can = false;
            if (f.equals("0000")) {
                passDay(s);
                can = true;
            } else if (f.charAt(0) == '1') {
                can = !refused(tryEat(s, second, Integer.parseInt(f.substring(2))));
            } else if (f.charAt(0) == '2' && f.charAt(2) == '0') {
                can = !refused(tryLet(s, second, last));
            } else if (f.charAt(0) == '3' && f.charAt(2) == '0') {
                can = !refused(trySell(s, second, last));
            }
            if (!can) {
                return i;
            }
        }
        return NONE;
    }

    // ---- tasted

    int taste(int c, int n, int hole) {
        if (noCell(c)) {
            return UNKNOWN;
        }
        if (n < 0 || n > 9 || hole < 0 || hole > 1) {
            return OUTSIDE;
        }
        if (tasted.size() == 6) {
            return FULL;
        }
        tasted.add(new int[] {c, n, hole});
        return tasted.size();
    }

    int rinse() {
        int n = tasted.size();
        tasted.clear();
        return n;
    }

    int began(int kind) {
        if (kind < 0 || kind > 3) {
            return OUTSIDE;
        }
        int bits = 0;
        for (int c = 0; c < 20; c++) {
            boolean so = true;
            for (int[] t : tasted) {
                PlainModel lone = new PlainModel();
                for (char letter : ("DO0H" + (char) ('a' + c) + "0" + kind).toCharArray()) {
                    lone.write(letter);
                }
                lone.dairy();
                for (int i = 0; i < t[1]; i++) {
                    lone.day();
                }
                so = so && (lone.cell(t[0], 0) == 1) == (t[2] == 1);
            }
            bits += so ? 1 << c : 0;
        }
        return bits;
    }

    // ---- shares, rests, chances

    private static int part(long above, long below, boolean upper) {
        for (long d = below; d > 1; d--) {
            if (above % d == 0 && below % d == 0) {
                return (int) (upper ? above / d : below / d);
            }
        }
        return (int) (upper ? above : below);
    }

    private int largest(List<Integer> come) {
        int best = 0;
        for (int a = 0; a < 20; a++) {
            boolean[] open = new boolean[20];
            for (int c = 0; c < 20; c++) {
                int o = whoseCell(now, c);
                open[c] = o != NONE && come.contains(o);
            }
            int n = 0;
            for (int b = 0; open[a] && b < 20; b++) {
                n += wayBy(a, b, open) != NONE ? 1 : 0;
            }
            best = Math.max(best, n);
        }
        return best;
    }

    /** The sum over all orders that go on from those who have come, and how many there are. */
    private long[] orders(List<Integer> come, int o) {
        if (come.size() == ownerKinds.size()) {
            return new long[] {0, 1};
        }
        long sum = 0;
        long n = 0;
        for (int next = 0; next < ownerKinds.size(); next++) {
            if (come.contains(next)) {
                continue;
            }
            List<Integer> more = new ArrayList<>(come);
            more.add(next);
            long[] rest = orders(more, o);
            sum += rest[0] + (next == o ? rest[1] * (largest(more) - largest(come)) : 0);
            n += rest[1];
        }
        return new long[] {sum, n};
    }

    int share(int o, boolean upper) {
        if (noOwner(o)) {
            return UNKNOWN;
        }
        long[] all = orders(new ArrayList<>(), o);
        return part(all[0], all[1], upper);
    }

    int rests(int a, int b, int what) {
        if (noOwner(a) || noOwner(b)) {
            return UNKNOWN;
        }
        if (a == b || what < 0 || what > 1) {
            return OUTSIDE;
        }
        int ofA = 0;
        int ofB = 0;
        for (int h = 0; h < 5; h++) {
            ofA += now.whose[h] == a ? now.size(h) : 0;
            ofB += now.whose[h] == b ? now.size(h) : 0;
        }
        int[][] hasA = {{1, ofA}, {0, 2}};
        int[][] hasB = {{1, 0}, {ofB, 2}};
        List<Integer> found = new ArrayList<>();
        for (int i = 0; i < 2; i++) {
            for (int j = 0; j < 2; j++) {
                if (hasA[1 - i][j] <= hasA[i][j] && hasB[i][1 - j] <= hasB[i][j]) {
                    found.add(10 * (i + 1) + j + 1);
                }
            }
        }
        return what == 0 ? found.size() : found.isEmpty() ? NONE : found.get(0);
    }

    /** Of 10 to the number of holes left, how many cases have a way. */
    private long cases(int hole, boolean[] open, int[] ends, int x) {
        if (hole == 5) {
            return wayBy(ends[0], ends[1], open) != NONE ? 1 : 0;
        }
        if (now.size(hole) == 0) {
            return cases(hole + 1, open, ends, x);
        }
        boolean[] more = open.clone();
        for (int c = 0; c < 20; c++) {
            more[c] |= now.at[c] == hole;
        }
        return x * cases(hole + 1, open, ends, x) + (10 - x) * cases(hole + 1, more, ends, x);
    }

    int passes(int a, int b, int x, boolean upper) {
        if (noCell(a) || noCell(b)) {
            return UNKNOWN;
        }
        if (x < 0 || x > 10) {
            return OUTSIDE;
        }
        boolean[] open = new boolean[20];
        for (int c = 0; c < 20; c++) {
            open[c] = now.at[c] == EATEN;
        }
        long below = 1;
        for (int i = 0; i < Integer.bitCount(alive(now)); i++) {
            below *= 10;
        }
        return part(cases(0, open, new int[] {a, b}, x), below, upper);
    }

    long seed(long v) {
        long was = seed;
        seed = v;
        return was;
    }

    int years(int m) {
        if (m < 1 || m > 30) {
            return OUTSIDE;
        }
        State s = now.copy();
        for (int i = 0; i < m; i++) {
            seed = seed * 6364136223846793005L + 1442695040888963407L;
            int lot = (int) Long.remainderUnsigned(Long.divideUnsigned(seed, 1L << 33), 28);
            if (lot < 20) {
                tryEat(s, 0, lot);
            } else {
                passDay(s);
            }
        }
        return 20 - s.size(PASTE) - s.size(EATEN);
    }

    // ---- slots

    int keep(int slot) {
        if (slot < 0 || slot > 1) {
            return UNKNOWN;
        }
        kept[slot] = now.copy();
        return now.day;
    }

    int again(int slot) {
        if (slot < 0 || slot > 1) {
            return UNKNOWN;
        }
        if (kept[slot] == null) {
            return STATE;
        }
        now = kept[slot].copy();
        acts.clear();
        return now.day;
    }

    int count(int what) {
        int holes = 0;
        int eaten = 0;
        for (int c = 0; c < 20; c++) {
            holes += now.at[c] >= 0 ? 1 << c : 0;
            eaten += now.at[c] == EATEN ? 1 << c : 0;
        }
        int[] counts = {text.length(), ownerKinds.size(), holeKinds.size(), now.day, holes, eaten,
            alive(now), acts.size(), tasted.size()};
        return what < 0 || what > 8 ? OUTSIDE : counts[what];
    }
}

import java.util.Random;

/** All promises: runs of 512 calls by chance (the same each time), LetHoles held against PlainModel. */
public final class AgainstPlainModelTest {
    private static final int RUNS = 300;
    private static final Check check = new Check();

    private final Random random;
    private final LetHoles x = new LetHoles();
    private final PlainModel model = new PlainModel();
    private final int run;
    private int calls = 0;

    private AgainstPlainModelTest(int run) {
        this.run = run;
        random = new Random(run);
    }

    public static void main(String[] args) {
        for (int run = 0; run < RUNS; run++) {
            new AgainstPlainModelTest(run).go();
        }
        check.end();
    }

    private void due(String call, long got, long want) {
        calls++;
        check.due("run " + run + ", call " + calls + ": " + call, got, want);
    }

    private int upTo(int n) {
        return random.nextInt(n);
    }

    /** Mostly a number as told, now and then one outside. */
    private int number(int n) {
        switch (upTo(60)) {
            case 0: return -1;
            case 1: return n;
            case 2: return Integer.MIN_VALUE;
            case 3: return Integer.MAX_VALUE;
            case 4: return Check.NONE;
            default: return upTo(n);
        }
    }

    private int owner() {
        return number(Math.max(1, model.count(1)));
    }

    private int hole() {
        return number(Math.max(1, model.count(2)));
    }

    private int cell() {
        return number(20);
    }

    private void go() {
        if (run % 50 != 0) {
            tellDairy();
        }
        while (calls < 470) {
            int lot = upTo(1000);
            if (lot < 4) {
                tellDairy();
            } else if (lot < 8) {
                tellFault();
            } else if (lot < 450) {
                act();
            } else if (lot < 600) {
                ask();
            } else if (lot < 800) {
                mice();
            } else {
                chances();
            }
        }
    }

    private void tellAll(String text) {
        due("wipe()", x.wipe(), model.wipe());
        for (int i = 0; i < text.length(); i++) {
            due("write(" + (int) text.charAt(i) + ")", x.write(text.charAt(i)), model.write(text.charAt(i)));
        }
    }

    private String anyDairy() {
        StringBuilder text = new StringBuilder("D");
        int owners = 0;
        int rows = 0;
        int cells = 0;
        int holes = 0;
        int parts = upTo(16);
        for (int i = 0; i < parts; i++) {
            int kind = upTo(3);
            int row = upTo(4);
            int cell = upTo(20);
            if ((kind == 0 || owners == 0) && owners < 4) {
                text.append('O').append(upTo(4));
                owners++;
            } else if (kind == 1 && (rows & (1 << row)) == 0) {
                text.append('R').append(row).append(upTo(owners));
                rows |= 1 << row;
            } else if (kind == 2 && holes < 5 && (cells & (1 << cell)) == 0) {
                text.append('H').append((char) ('a' + cell)).append(upTo(owners)).append(upTo(4));
                cells |= 1 << cell;
                holes++;
            }
        }
        return text.toString();
    }

    private void tellDairy() {
        tellAll(anyDairy());
        due("dairy()", x.dairy(), model.dairy());
    }

    private void tellFault() {
        StringBuilder text = new StringBuilder(anyDairy());
        String letters = "DORH0123456789abtuv";
        if (upTo(3) == 0) {
            text.setLength(upTo(text.length() + 1));
        } else {
            char letter = upTo(10) == 0 ? (char) upTo(256) : letters.charAt(upTo(letters.length()));
            text.insert(upTo(text.length() + 1), letter);
        }
        tellAll(text.toString());
        due("fault() of " + text, x.fault(), model.fault());
        if (upTo(4) == 0) {
            due("dairy()", x.dairy(), model.dairy());
        }
    }

    private void act() {
        int a;
        switch (upTo(12)) {
            case 0: case 1: case 2:
                due("day()", x.day(), model.day());
                break;
            case 3: case 4: case 5: {
                int o = owner();
                a = cell();
                due("eat(" + o + ", " + a + ")", x.eat(o, a), model.eat(o, a));
                break;
            }
            case 6: case 7: {
                int h = hole();
                a = owner();
                due("let(" + h + ", " + a + ")", x.let(h, a), model.let(h, a));
                break;
            }
            case 8: {
                int h = hole();
                a = owner();
                due("sell(" + h + ", " + a + ")", x.sell(h, a), model.sell(h, a));
                break;
            }
            case 9: case 10:
                due("undo()", x.undo(), model.undo());
                break;
            default:
                a = number(2);
                if (upTo(3) == 0) {
                    due("again(" + a + ")", x.again(a), model.again(a));
                } else {
                    due("keep(" + a + ")", x.keep(a), model.keep(a));
                }
        }
    }

    private void ask() {
        int what = number(5);
        switch (upTo(4)) {
            case 0: {
                int o = owner();
                due("owner(" + o + ", " + what + ")", x.owner(o, what), model.owner(o, what));
                break;
            }
            case 1: {
                int h = hole();
                due("hole(" + h + ", " + what + ")", x.hole(h, what), model.hole(h, what));
                break;
            }
            case 2: {
                int c = cell();
                int of = number(3);
                due("cell(" + c + ", " + of + ")", x.cell(c, of), model.cell(c, of));
                break;
            }
            default: {
                int of = number(9);
                due("count(" + of + ")", x.count(of), model.count(of));
            }
        }
    }

    private void mice() {
        int what = number(2);
        switch (upTo(6)) {
            case 0: {
                int a = cell();
                int b = cell();
                due("way(" + a + ", " + b + ")", x.way(a, b), model.way(a, b));
                break;
            }
            case 1: {
                int a = cell();
                int b = cell();
                due("gnaw(" + a + ", " + b + ")", x.gnaw(a, b), model.gnaw(a, b));
                break;
            }
            case 2: {
                int h = hole();
                int g = hole();
                due("wedding(" + h + ", " + g + ")", x.wedding(h, g), model.wedding(h, g));
                break;
            }
            case 3: {
                int n = number(21);
                due("ahead(" + n + ", " + what + ")", x.ahead(n, what), model.ahead(n, what));
                break;
            }
            case 4: {
                int a = owner();
                int b = owner();
                due("cut(" + a + ", " + b + ", " + what + ")", x.cut(a, b, what), model.cut(a, b, what));
                break;
            }
            default: {
                int n = 1 + number(3);
                long row = doings(n);
                due("judge(" + n + ", " + row + ")", x.judge(n, row), model.judge(n, row));
            }
        }
    }

    private long doings(int n) {
        if (upTo(20) == 0) {
            return random.nextLong();
        }
        if (upTo(10) == 0) {
            return upTo(10000);
        }
        long row = 0;
        for (int i = 0; i < n && i < 4; i++) {
            long doing = 0;
            switch (upTo(4)) {
                case 1: doing = 1000 + 100 * upTo(4) + upTo(21); break;
                case 2: doing = 2000 + 100 * upTo(5) + upTo(4); break;
                case 3: doing = 3000 + 100 * upTo(5) + upTo(4); break;
                default: break;
            }
            row = 10000 * row + doing;
        }
        return row;
    }

    private void chances() {
        int what = number(2);
        boolean upper = random.nextBoolean();
        switch (upTo(9)) {
            case 0: {
                int c = cell();
                int n = number(10);
                due("taste(" + c + ", " + n + ", " + what + ")", x.taste(c, n, what), model.taste(c, n, what));
                break;
            }
            case 1:
                if (upTo(5) == 0) {
                    due("rinse()", x.rinse(), model.rinse());
                }
                break;
            case 2: {
                int k = number(4);
                due("began(" + k + ")", x.began(k), model.began(k));
                break;
            }
            case 3: {
                int o = owner();
                due("share(" + o + ", " + upper + ")", x.share(o, upper), model.share(o, upper));
                break;
            }
            case 4: {
                int a = owner();
                int b = owner();
                due("rests(" + a + ", " + b + ", " + what + ")", x.rests(a, b, what), model.rests(a, b, what));
                break;
            }
            case 5: case 6: {
                int a = cell();
                int b = cell();
                int s = number(11);
                due("passes(" + a + ", " + b + ", " + s + ", " + upper + ")",
                    x.passes(a, b, s, upper), model.passes(a, b, s, upper));
                break;
            }
            case 7: {
                long v = random.nextLong();
                due("seed(" + v + ")", x.seed(v), model.seed(v));
                break;
            }
            default: {
                int m = number(31);
                due("years(" + m + ")", x.years(m), model.years(m));
            }
        }
    }
}

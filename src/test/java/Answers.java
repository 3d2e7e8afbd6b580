import java.util.ArrayList;
import java.util.List;
import java.util.function.Supplier;

/**
 * Every answer that an object can give, to tell whether two stand alike. They are asked in portions, each of an
 * object made anew: an object is good for 512 calls, and some of what is asked (undo, again, dairy) changes it.
 * A maker may make 110 calls of its own.
 */
final class Answers {
    private static final int PORTIONS = 7;
    private static final long[] DOINGS = {
        0L, 1000L, 1119L, 1207L, 1300L, 1020L, 1400L, 2001L, 2003L, 2102L, 2200L, 2300L, 2401L, 2500L, 3001L, 3002L,
        3100L, 3203L, 3300L, 3402L, 3500L, 3010L, 4000L, 9999L};

    private final LetHoles x;
    private final List<String> found = new ArrayList<>();

    private Answers(LetHoles x) {
        this.x = x;
    }

    static List<String> of(Supplier<LetHoles> maker) {
        List<String> all = new ArrayList<>();
        for (int portion = 0; portion < PORTIONS; portion++) {
            Answers asked = new Answers(maker.get());
            asked.ask(portion);
            all.addAll(asked.found);
        }
        return all;
    }

    private void add(String call, long answer) {
        found.add(call + " = " + answer);
    }

    private void ask(int portion) {
        switch (portion) {
            case 0:
                standing();
                break;
            case 1:
                ways();
                break;
            case 2:
                gnaws();
                break;
            case 3:
                holesAndOwners();
                break;
            case 4:
                passes();
                break;
            case 5:
                yearsAndSlots();
                break;
            default:
                undos();
        }
    }

    /** 127 calls. */
    private void standing() {
        add("fault()", x.fault());
        add("count(0)", x.count(0));
        add("count(8)", x.count(8));
        wheel("");
        for (int owner = 0; owner < 5; owner++) {
            for (int what = 0; what < 5; what++) {
                add("owner(" + owner + ", " + what + ")", x.owner(owner, what));
            }
        }
        for (int hole = 0; hole < 6; hole++) {
            add("hole(" + hole + ", 0)", x.hole(hole, 0));
            add("hole(" + hole + ", 4)", x.hole(hole, 4));
        }
        for (int cell = 0; cell < 20; cell++) {
            for (int what = 0; what < 3; what++) {
                add("cell(" + cell + ", " + what + ")", x.cell(cell, what));
            }
        }
        add("seed(1)", x.seed(1L));
    }

    /** What acts change, in 26 calls. */
    private void wheel(String when) {
        for (int what = 1; what < 8; what++) {
            add(when + "count(" + what + ")", x.count(what));
        }
        for (int owner = 0; owner < 4; owner++) {
            add(when + "owner(" + owner + ", 1)", x.owner(owner, 1));
        }
        for (int hole = 0; hole < 5; hole++) {
            for (int what = 1; what < 4; what++) {
                add(when + "hole(" + hole + ", " + what + ")", x.hole(hole, what));
            }
        }
    }

    /** What stood ahead of a call that is refused was asked elsewhere. */
    private void wheelBehind(String call, int answer) {
        add(call, answer);
        if (answer >= 0) {
            wheel(call + ": ");
        }
    }

    private void ways() {
        for (int cell = 0; cell < 20; cell++) {
            for (int other = 0; other < 20; other++) {
                add("way(" + cell + ", " + other + ")", x.way(cell, other));
            }
        }
    }

    private void gnaws() {
        for (int cell = 0; cell < 20; cell++) {
            for (int other = 0; other < 20; other++) {
                add("gnaw(" + cell + ", " + other + ")", x.gnaw(cell, other));
            }
        }
    }

    /** 191 calls. */
    private void holesAndOwners() {
        for (int hole = 0; hole < 5; hole++) {
            for (int other = 0; other < 5; other++) {
                add("wedding(" + hole + ", " + other + ")", x.wedding(hole, other));
            }
        }
        for (int n = 0; n <= 20; n++) {
            add("ahead(" + n + ", 0)", x.ahead(n, 0));
            add("ahead(" + n + ", 1)", x.ahead(n, 1));
        }
        for (int i = 0; i < DOINGS.length; i++) {
            add("judge(1, " + DOINGS[i] + ")", x.judge(1, DOINGS[i]));
            long row = DOINGS[i] * 100000000L + DOINGS[(i + 5) % DOINGS.length] * 10000L + DOINGS[(i + 9) % DOINGS.length];
            add("judge(3, " + row + ")", x.judge(3, row));
        }
        for (int one = 0; one < 4; one++) {
            for (int other = 0; other < 4; other++) {
                for (int what = 0; what < 2; what++) {
                    String of = "(" + one + ", " + other + ", " + what + ")";
                    add("cut" + of, x.cut(one, other, what));
                    add("rests" + of, x.rests(one, other, what));
                }
            }
        }
        for (int owner = 0; owner < 4; owner++) {
            add("share(" + owner + ", true)", x.share(owner, true));
            add("share(" + owner + ", false)", x.share(owner, false));
            add("began(" + owner + ")", x.began(owner));
        }
    }

    private void passes() {
        for (int cell = 0; cell < 20; cell++) {
            for (int shut = 0; shut <= 10; shut += shut == 0 ? 3 : 7) {
                for (int i = 0; i < 3; i++) {
                    int other = (7 * cell + 3 + 4 * i) % 20;
                    String of = "(" + cell + ", " + other + ", " + shut + ")";
                    add("passes above" + of, x.passes(cell, other, shut, true));
                    add("passes below" + of, x.passes(cell, other, shut, false));
                }
            }
        }
    }

    /** Years by the seed, what is kept, what the text makes. */
    private void yearsAndSlots() {
        for (int m : new int[] {1, 2, 5, 30}) {
            add("years(" + m + ")", x.years(m));
        }
        add("seed(3)", x.seed(3L));
        for (int slot = 0; slot < 2; slot++) {
            wheelBehind("again(" + slot + ")", x.again(slot));
        }
        wheelBehind("dairy()", x.dairy());
        for (int i = x.count(8); i < 6; i++) {
            add("taste(" + i + ", 9, 1)", x.taste(i, 9, 1));
        }
        add("began(1) of all", x.began(1));
        add("wipe()", x.wipe());
    }

    /** Up to 14 times 27 calls, and one. */
    private void undos() {
        for (int i = 0; i < 15; i++) {
            int left = x.undo();
            add("undo()", left);
            if (left < 0) {
                return;
            }
            wheel("undone to " + left + ": ");
        }
    }
}

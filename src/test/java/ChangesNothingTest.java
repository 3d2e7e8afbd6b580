import java.util.ArrayList;
import java.util.List;
import java.util.function.Consumer;
import java.util.function.Supplier;

/**
 * "In what follows nothing is changed" (==== 2), "nothing changes but THE SEED", and what else each call leaves
 * as it was: behind it every answer is held against that of an object to which it was never said.
 */
public final class ChangesNothingTest {
    private static final Check check = new Check();
    /** So many calls are said at once, so that 512 are enough for asking every answer behind them. */
    private static final int AT_ONCE = 20;

    private final String name;
    private final Supplier<LetHoles> maker;
    private final long seed;
    private final List<String> answers;
    private final List<Consumer<LetHoles>> said = new ArrayList<>();

    private ChangesNothingTest(String name, Supplier<LetHoles> maker, long seed) {
        this.name = name;
        this.maker = maker;
        this.seed = seed;
        answers = Answers.of(maker);
    }

    public static void main(String[] args) {
        ChangesNothingTest[] all = {
            new ChangesNothingTest("new", LetHoles::new, 0L), new ChangesNothingTest("small", Dairies::small, 0L),
            new ChangesNothingTest("midway", Dairies::midway, -99L),
            new ChangesNothingTest("full", Dairies::full, 123456789L)};
        for (ChangesNothingTest each : all) {
            each.questions();
            each.mice();
            each.weddingsAndDaysAhead();
            each.ownersAreCutShareAndRest();
            each.doings();
            each.begins();
            each.passes();
            each.years();
            each.textAlone();
            each.tastedAlone();
            each.seedAlone();
            each.slotAlone();
            each.actsUndone();
            each.goneOnFrom();
            each.madeAnew();
        }
        check.end();
    }

    private Supplier<LetHoles> behind(Consumer<LetHoles> calls) {
        return () -> {
            LetHoles x = maker.get();
            calls.accept(x);
            return x;
        };
    }

    private static List<String> without(List<String> all, String... beginnings) {
        List<String> rest = new ArrayList<>();
        for (String line : all) {
            boolean out = false;
            for (String beginning : beginnings) {
                out |= line.startsWith(beginning);
            }
            if (!out) {
                rest.add(line);
            }
        }
        return rest;
    }

    /** All answers but those that begin so are as they were. */
    private void leavesAllBut(String what, Consumer<LetHoles> calls, String... beginnings) {
        List<String> got = without(Answers.of(behind(calls)), beginnings);
        check.dueAlike(name + ", behind " + what, got, without(answers, beginnings));
    }

    private void say(Consumer<LetHoles> call) {
        said.add(call);
    }

    private void leavesAll(String what) {
        for (int from = 0; from < said.size(); from += AT_ONCE) {
            List<Consumer<LetHoles>> some = said.subList(from, Math.min(from + AT_ONCE, said.size()));
            leavesAllBut(what + " from " + from, x -> some.forEach(call -> call.accept(x)));
        }
        said.clear();
    }

    private void questions() {
        say(LetHoles::fault);
        for (int i = 0; i < 20; i++) {
            int n = i;
            for (int w = 0; w < 9; w++) {
                int what = w;
                say(x -> x.owner(n, what));
                say(x -> x.hole(n, what));
                say(x -> x.cell(n, what));
                say(x -> x.count(what));
            }
        }
        leavesAll("questions");
    }

    private void mice() {
        for (int i = 0; i < 400; i++) {
            int n = i;
            say(x -> x.way(n / 20, n % 20));
        }
        leavesAll("way");
        for (int i = 0; i < 400; i++) {
            int n = i;
            say(x -> x.gnaw(n / 20, n % 20));
        }
        leavesAll("gnaw");
    }

    private void weddingsAndDaysAhead() {
        for (int i = 0; i < 25; i++) {
            int n = i;
            say(x -> x.wedding(n / 5, n % 5));
        }
        leavesAll("wedding");
        for (int i = 0; i <= 41; i++) {
            int n = i;
            say(x -> x.ahead(n / 2, n % 2));
        }
        leavesAll("ahead");
    }

    private void ownersAreCutShareAndRest() {
        for (int i = 0; i < 32; i++) {
            int n = i;
            say(x -> x.cut(n / 8, n / 2 % 4, n % 2));
        }
        leavesAll("cut");
        for (int i = 0; i < 8; i++) {
            int n = i;
            say(x -> x.share(n / 2, n % 2 == 0));
        }
        leavesAll("share");
        for (int i = 0; i < 32; i++) {
            int n = i;
            say(x -> x.rests(n / 8, n / 2 % 4, n % 2));
        }
        leavesAll("rests");
    }

    private void doings() {
        for (int owner = 0; owner < 4; owner++) {
            for (int cell = 0; cell < 20; cell++) {
                long eaten = 1000L + 100L * owner + cell;
                say(x -> x.judge(1, eaten));
                say(x -> x.judge(2, 10000L * eaten));
            }
        }
        for (int hole = 0; hole < 5; hole++) {
            for (int owner = 0; owner < 4; owner++) {
                long let = 2000L + 100L * hole + owner;
                long sold = 3000L + 100L * hole + owner;
                say(x -> x.judge(1, let));
                say(x -> x.judge(1, sold));
                say(x -> x.judge(3, 100000000L * let + sold));
            }
        }
        say(x -> x.judge(1, 0L));
        say(x -> x.judge(3, 0L));
        say(x -> x.judge(3, 9999L));
        leavesAll("judge");
    }

    private void begins() {
        for (int i = 0; i < 4; i++) {
            int kind = i;
            say(x -> x.began(kind));
        }
        leavesAll("began");
    }

    private void passes() {
        for (int i = 0; i < 11 * 20; i++) {
            int n = i;
            say(x -> x.passes(n % 20, (n * 3 + 1) % 20, n / 20, n % 2 == 0));
        }
        leavesAll("passes");
    }

    /** "(Nothing changes but THE SEED.)" */
    private void years() {
        for (int m = 1; m <= 30; m++) {
            int years = m;
            leavesAllBut("years(" + m + ")", x -> {
                x.years(years);
                x.seed(seed);
            });
        }
    }

    private void textAlone() {
        String[] ofText = {"fault()", "count(0)", "dairy", "wipe()"};
        leavesAllBut("wipe()", LetHoles::wipe, ofText);
        leavesAllBut("another text", x -> Check.tell(x, "DO2Hq03"), ofText);
        leavesAllBut("another text and its fault", x -> {
            Check.tell(x, "DO2Hq03R");
            x.fault();
        }, ofText);
    }

    private void tastedAlone() {
        String[] ofTasted = {"count(8)", "began", "taste"};
        leavesAllBut("taste", x -> x.taste(3, 3, 1), ofTasted);
        leavesAllBut("rinse()", LetHoles::rinse, ofTasted);
    }

    private void seedAlone() {
        leavesAllBut("seed", x -> x.seed(77L), "seed", "years");
        leavesAllBut("seed there and back", x -> {
            x.seed(Long.MIN_VALUE);
            x.seed(seed);
        });
    }

    private void slotAlone() {
        leavesAllBut("keep(0)", x -> x.keep(0), "again(0)");
        leavesAllBut("keep(1)", x -> x.keep(1), "again(1)");
    }

    /** "the last one can be undone": what is undone was never done (but for a first act that was forgotten). */
    private void actsUndone() {
        boolean forgets = maker.get().count(7) == 14;
        String[] ofActs = forgets ? new String[] {"count(7)", "undo"} : new String[0];
        undone("day", x -> x.day(), ofActs);
        for (int i = 0; i < 20; i++) {
            int n = i;
            undone("eat(" + n % 4 + ", " + n + ")", x -> x.eat(n % 4, n), ofActs);
            undone("let(" + n / 4 + ", " + n % 4 + ")", x -> x.let(n / 4, n % 4), ofActs);
            undone("sell(" + n / 4 + ", " + n % 4 + ")", x -> x.sell(n / 4, n % 4), ofActs);
        }
    }

    private interface Act {
        int on(LetHoles x);
    }

    private void undone(String what, Act act, String... beginnings) {
        int answer = act.on(maker.get());
        if (answer != Check.UNKNOWN && answer != Check.STATE) {
            leavesAllBut(what + " and undo()", x -> {
                act.on(x);
                x.undo();
            }, beginnings);
        }
    }

    /** "They are as they were kept", and "THE ROW of ACTS is empty when one goes on". */
    private void goneOnFrom() {
        for (int i = 0; i < 2; i++) {
            int slot = i;
            Supplier<LetHoles> back = behind(x -> {
                x.keep(slot);
                x.day();
                x.eat(0, 0);
                x.let(2, 0);
                x.sell(3, 3);
                x.day();
                x.again(slot);
            });
            String[] others = {"count(7)", "undo", "again(" + slot};
            check.dueAlike(name + ", kept in " + slot + " and gone on from",
                without(Answers.of(back), others), without(answers, others));
            check.due(name + ": no acts behind again(" + slot + ")", back.get().count(7), 0);
            check.due(name + ": undo() behind again(" + slot + ")", back.get().undo(), Check.STATE);
        }
    }

    /** "when THE DAIRY is made anew", by the text of another one: all but TASTED and THE SEED is as if new. */
    private void madeAnew() {
        for (String text : new String[] {"D", "DO1", "DO0O3R01Hc02Hr13", Dairies.FULLEST}) {
            Supplier<LetHoles> anew = behind(x -> {
                Check.tell(x, text);
                x.dairy();
                x.rinse();
                x.seed(5L);
            });
            Supplier<LetHoles> fresh = () -> {
                LetHoles x = Check.dairy(text);
                x.seed(5L);
                return x;
            };
            check.dueAlike(name + ", anew by " + text, Answers.of(anew), Answers.of(fresh));
        }
        String[] ofDairy = {"began", "count(8)", "seed"};
        List<String> kept = new ArrayList<>(answers);
        kept.removeAll(without(answers, ofDairy));
        List<String> got = Answers.of(behind(x -> {
            Check.tell(x, "DO3Hk00");
            x.dairy();
        }));
        got.removeAll(without(got, ofDairy));
        kept.removeIf(line -> line.startsWith("began(1) of all"));
        got.removeIf(line -> line.startsWith("began(1) of all"));
        check.dueAlike(name + ", anew: TASTED, THE SEED stay", got, kept);
    }
}

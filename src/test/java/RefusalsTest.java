import java.util.List;
import java.util.function.Supplier;
import java.util.function.ToLongFunction;

/**
 * "REFUSALS, of several the first that a call names: UNKNOWN, OUTSIDE, STATE, FULL. What is refused changes
 * nothing." Each refusal of each call, in objects that are new, small, midway and full; behind each one every
 * answer is held against that of an object to which it was never said.
 */
public final class RefusalsTest {
    private static final Check check = new Check();
    private static final int LEAST = Integer.MIN_VALUE;
    private static final int MOST = Integer.MAX_VALUE;
    /** No owner, hole, cell, slot or what bears one of these; 32 and 64 are 0 to a shift. */
    private static final int[] ODD = {-1, Check.NONE, LEAST, MOST, 32, 64, -32};

    private final String name;
    private final Supplier<LetHoles> maker;
    private final List<String> answers;
    private final int owners;
    private final int holes;

    private RefusalsTest(String name, Supplier<LetHoles> maker) {
        this.name = name;
        this.maker = maker;
        answers = Answers.of(maker);
        owners = maker.get().count(1);
        holes = maker.get().count(2);
    }

    public static void main(String[] args) {
        RefusalsTest[] all = {
            new RefusalsTest("new", LetHoles::new), new RefusalsTest("small", Dairies::small),
            new RefusalsTest("midway", Dairies::midway), new RefusalsTest("full", Dairies::full)};
        for (RefusalsTest each : all) {
            each.whatIsUnknown();
            each.whatIsOutside();
            each.unknownAheadOfOutside();
        }
        all[0].newObject();
        all[1].small();
        all[2].midway();
        all[3].full();
        check.end();
    }

    private void refused(String call, ToLongFunction<LetHoles> said, int refusal) {
        check.due(name + ": " + call, said.applyAsLong(maker.get()), refusal);
        Supplier<LetHoles> behind = () -> {
            LetHoles x = maker.get();
            said.applyAsLong(x);
            return x;
        };
        check.dueAlike(name + ", behind " + call, Answers.of(behind), answers);
    }

    private void unknown(String call, ToLongFunction<LetHoles> said) {
        refused(call, said, Check.UNKNOWN);
    }

    private void outside(String call, ToLongFunction<LetHoles> said) {
        refused(call, said, Check.OUTSIDE);
    }

    private void state(String call, ToLongFunction<LetHoles> said) {
        refused(call, said, Check.STATE);
    }

    /** The odd numbers, and the first that is too great. */
    private static int[] oddAnd(int first) {
        int[] all = java.util.Arrays.copyOf(ODD, ODD.length + 1);
        all[ODD.length] = first;
        return all;
    }

    private void whatIsUnknown() {
        for (int o : oddAnd(owners)) {
            unknown("owner(" + o + ", 0)", x -> x.owner(o, 0));
            unknown("eat(" + o + ", 0)", x -> x.eat(o, 0));
            unknown("let(0, " + o + ")", x -> x.let(0, o));
            unknown("sell(0, " + o + ")", x -> x.sell(0, o));
            unknown("cut(" + o + ", 0, 0)", x -> x.cut(o, 0, 0));
            unknown("cut(0, " + o + ", 1)", x -> x.cut(0, o, 1));
            unknown("rests(" + o + ", 0, 0)", x -> x.rests(o, 0, 0));
            unknown("rests(0, " + o + ", 1)", x -> x.rests(0, o, 1));
            unknown("share(" + o + ", true)", x -> x.share(o, true));
            unknown("share(" + o + ", false)", x -> x.share(o, false));
        }
        for (int h : oddAnd(holes)) {
            unknown("hole(" + h + ", 0)", x -> x.hole(h, 0));
            unknown("let(" + h + ", 0)", x -> x.let(h, 0));
            unknown("sell(" + h + ", 0)", x -> x.sell(h, 0));
            unknown("wedding(" + h + ", 0)", x -> x.wedding(h, 0));
            unknown("wedding(0, " + h + ")", x -> x.wedding(0, h));
        }
        for (int c : oddAnd(20)) {
            unknown("cell(" + c + ", 0)", x -> x.cell(c, 0));
            unknown("eat(0, " + c + ")", x -> x.eat(0, c));
            unknown("way(" + c + ", 0)", x -> x.way(c, 0));
            unknown("way(0, " + c + ")", x -> x.way(0, c));
            unknown("way(" + c + ", the same)", x -> x.way(c, c));
            unknown("gnaw(" + c + ", 0)", x -> x.gnaw(c, 0));
            unknown("gnaw(0, " + c + ")", x -> x.gnaw(0, c));
            unknown("gnaw(" + c + ", the same)", x -> x.gnaw(c, c));
            unknown("taste(" + c + ", 0, 0)", x -> x.taste(c, 0, 0));
            unknown("passes(" + c + ", 0, 0, true)", x -> x.passes(c, 0, 0, true));
            unknown("passes(0, " + c + ", 10, false)", x -> x.passes(0, c, 10, false));
            unknown("passes(" + c + ", the same)", x -> x.passes(c, c, 5, true));
        }
        for (int s : oddAnd(2)) {
            unknown("keep(" + s + ")", x -> x.keep(s));
            unknown("again(" + s + ")", x -> x.again(s));
        }
    }

    private void whatIsOutside() {
        for (int n : new int[] {-1, 256, LEAST, MOST, Check.NONE, 'D' + 256}) {
            outside("write(" + n + ")", x -> x.write(n));
        }
        for (int what : oddAnd(3)) {
            outside("cell(0, " + what + ")", x -> x.cell(0, what));
        }
        for (int n : oddAnd(21)) {
            outside("ahead(" + n + ", 0)", x -> x.ahead(n, 0));
            outside("ahead(" + n + ", 1)", x -> x.ahead(n, 1));
        }
        for (int what : oddAnd(2)) {
            outside("ahead(0, " + what + ")", x -> x.ahead(0, what));
            outside("ahead(20, " + what + ")", x -> x.ahead(20, what));
            outside("taste(0, 0, " + what + ")", x -> x.taste(0, 0, what));
        }
        for (int n : oddAnd(10)) {
            outside("taste(19, " + n + ", 1)", x -> x.taste(19, n, 1));
        }
        for (int kind : oddAnd(4)) {
            outside("began(" + kind + ")", x -> x.began(kind));
        }
        for (int tenths : oddAnd(11)) {
            outside("passes(0, 0, " + tenths + ", true)", x -> x.passes(0, 0, tenths, true));
            outside("passes(0, 19, " + tenths + ", false)", x -> x.passes(0, 19, tenths, false));
        }
        for (int m : new int[] {0, 31, -1, LEAST, MOST, Check.NONE, 32}) {
            outside("years(" + m + ")", x -> x.years(m));
        }
        for (int what : oddAnd(9)) {
            outside("count(" + what + ")", x -> x.count(what));
        }
        rowsOutside();
    }

    private void rowsOutside() {
        for (int n : new int[] {0, 4, -1, LEAST, MOST, Check.NONE, 32}) {
            outside("judge(" + n + ", 0)", x -> x.judge(n, 0L));
        }
        long[] firstTooLong = {10000L, 100000000L, 1000000000000L};
        for (int n = 1; n <= 3; n++) {
            int doings = n;
            long[] rows = {-1L, Long.MIN_VALUE, Long.MAX_VALUE, firstTooLong[n - 1], 1L << 62, Check.NONE};
            for (long row : rows) {
                outside("judge(" + n + ", " + row + ")", x -> x.judge(doings, row));
            }
        }
    }

    /** Two numbers that are wrong at once: UNKNOWN is named first wherever both are named. */
    private void unknownAheadOfOutside() {
        unknown("owner, both wrong", x -> x.owner(owners, 5));
        unknown("hole, both wrong", x -> x.hole(holes, 5));
        unknown("cell, both wrong", x -> x.cell(20, 3));
        unknown("wedding, unknown and one", x -> x.wedding(holes, holes));
        unknown("cut, unknown and one", x -> x.cut(owners, owners, 0));
        unknown("cut, unknown and what", x -> x.cut(0, owners, 2));
        unknown("rests, unknown and one", x -> x.rests(owners, owners, 0));
        unknown("rests, unknown and what", x -> x.rests(owners, 0, -1));
        unknown("taste, cell and n", x -> x.taste(20, 10, 0));
        unknown("taste, cell and hole", x -> x.taste(-1, 0, 2));
        unknown("passes, cell and x", x -> x.passes(20, 0, 11, true));
        unknown("passes, other and x", x -> x.passes(0, 20, -1, false));
    }

    /** There is none of anything yet. */
    private void newObject() {
        state("dairy() of no text", LetHoles::dairy);
        state("undo() with no act", LetHoles::undo);
        state("again(0), nothing kept", x -> x.again(0));
        state("again(1), nothing kept", x -> x.again(1));
    }

    private void small() {
        outsideOfOwnersAndHoles();
        state("let to who has it", x -> x.let(0, 0));
        state("let to its own", x -> x.let(0, 1));
        state("sold to its own", x -> x.sell(0, 1));
        state("again(0), nothing kept", x -> x.again(0));
        state("again(1), nothing kept", x -> x.again(1));
    }

    private void outsideOfOwnersAndHoles() {
        for (int what : oddAnd(5)) {
            outside("owner(0, " + what + ")", x -> x.owner(0, what));
            outside("owner(last, " + what + ")", x -> x.owner(owners - 1, what));
            outside("hole(0, " + what + ")", x -> x.hole(0, what));
            outside("hole(last, " + what + ")", x -> x.hole(holes - 1, what));
        }
        for (int what : oddAnd(2)) {
            outside("cut(0, 1, " + what + ")", x -> x.cut(0, 1, what));
            outside("rests(0, 1, " + what + ")", x -> x.rests(0, 1, what));
        }
        for (int o = 0; o < owners; o++) {
            int one = o;
            outside("cut, both are " + o, x -> x.cut(one, one, 0));
            outside("cut, both are " + o + ", and what", x -> x.cut(one, one, 2));
            outside("rests, both are " + o, x -> x.rests(one, one, 1));
            outside("rests, both are " + o + ", and what", x -> x.rests(one, one, -1));
        }
        for (int h = 0; h < holes; h++) {
            int one = h;
            outside("wedding, both are " + h, x -> x.wedding(one, one));
        }
    }

    private void midway() {
        outsideOfOwnersAndHoles();
        state("dairy() of a text with a fault", LetHoles::dairy);
        state("again(0), slot 1 is kept", x -> x.again(0));
        state("eaten already", x -> x.eat(0, 13));
        state("eaten already, by who ate it", x -> x.eat(3, 13));
        unknown("eaten already, by nobody", x -> x.eat(4, 13));
        state("let, it is gone", x -> x.let(1, 0));
        unknown("let, it is gone, to nobody", x -> x.let(1, 4));
        state("let to its own", x -> x.let(4, 1));
        state("let to who has it", x -> x.let(0, 1));
        state("sold, it is gone", x -> x.sell(1, 1));
        unknown("sold, it is gone, to nobody", x -> x.sell(1, 4));
        state("sold to its own", x -> x.sell(4, 1));
    }

    private void full() {
        outsideOfOwnersAndHoles();
        refused("write(0), 48 letters", x -> x.write(0), Check.FULL);
        refused("write(255), 48 letters", x -> x.write(255), Check.FULL);
        refused("taste, 6 tasted", x -> x.taste(0, 0, 0), Check.FULL);
        refused("the same tasted again", x -> x.taste(3, 1, 1), Check.FULL);
        state("dairy() of a text with a fault", LetHoles::dairy);
        for (int cell : new int[] {1, 2, 4, 9, 13}) {
            state("eaten already: " + cell, x -> x.eat(1, cell));
        }
        for (int o = 0; o < 4; o++) {
            int owner = o;
            state("let, it is gone, to " + o, x -> x.let(1, owner));
            state("sold, it is gone, to " + o, x -> x.sell(1, owner));
        }
        state("let to who has it", x -> x.let(4, 3));
        state("let to its own", x -> x.let(4, 2));
        state("sold to its own", x -> x.sell(4, 2));
    }
}

import java.util.ArrayList;
import java.util.List;
import java.util.function.Supplier;

/**
 * What must leave the object as it was: calls that throw, with the exception that is named first if several
 * apply, calls that are REFUSED, calls that find nothing to do, and all that is asked.
 */
final class UnchangedTest {
    private static final int LEAST = Integer.MIN_VALUE;
    private static final int GREATEST = Integer.MAX_VALUE;
    private static final Class<?> INDEX = IndexOutOfBoundsException.class;
    private static final Class<?> VALUE = IllegalArgumentException.class;
    private static final Class<?> STATE = IllegalStateException.class;

    private static final Check CHECK = new Check();

    /** A call with all its values in a row. */
    private interface Call {
        Object on(Paintedline x, int[] v);
    }

    /** One value, or two that belong together: right ones, wrong ones, and what the wrong ones throw. */
    private record Slot(Class<?> thrown, int[][] right, int[][] wrong) {
    }

    /** The values of one call, and the exception that they throw, or null. */
    private record Mix(int[] values, Class<?> thrown) {
    }

    /** The rows of the lines 0 and 1 hold the ACTS 1 to 3, their TAKEN 5 and 4; each has 5 RANGES. */
    private static Paintedline busy() {
        Paintedline x = new Paintedline();
        x.paint(2, 2, 3, 6);
        x.paint(2, 30, 31, 7);
        x.mirror(2);
        x.undo(2);
        for (int line = 0; line <= 1; line++) {
            x.paint(line, 0, 9, 1);
            x.lay(line, 2);
            x.cut(line, 30, GREATEST);
            x.dye(line, 1, 3);
            x.meet(line, 2);
            x.undo(line);
            x.undo(line);
        }
        return tried(x);
    }

    /** 39 of WEIGHT on the line 0, 1 more in TAKEN, no POINT is NONE: FULL for 2, not for 1. */
    private static Paintedline fullFor2() {
        Paintedline x = weighing40();
        x.undo(0);
        x.shift(0, 3);
        x.dye(0, 0, 7);
        x.shift(0, 0);
        x.undo(0);
        return tried(x);
    }

    /** 40 of WEIGHT on the line 0, TAKEN holds a MIRROR, all POINTS are NONE: FULL for 1. */
    private static Paintedline fullFor1() {
        Paintedline x = weighing40();
        x.undo(0);
        x.cut(0, LEAST, GREATEST);
        x.mirror(0);
        x.undo(0);
        return tried(x);
    }

    /** A row of 16 ACTS on the line 0, TAKEN is empty (as it must be then): FULL for 0. */
    private static Paintedline fullFor0() {
        Paintedline x = new Paintedline();
        for (int i = 0; i < 15; i++) {
            x.paint(0, 2 * i, 2 * i, 1 + i % 7);
        }
        x.mirror(0);
        x.paint(1, 0, 0, 1);
        return tried(x);
    }

    /** On the line 0 a LAY of 20 and ten PAINTS of 2; the line 1 has 21 RANGES. */
    private static Paintedline weighing40() {
        Paintedline x = new Paintedline();
        for (int i = 0; i < 10; i++) {
            x.paint(1, 4 * i, 4 * i, 1 + i % 7);
        }
        x.lay(0, 1);
        for (int i = 0; i < 10; i++) {
            x.paint(0, 4 * i + 2, 4 * i + 2, 1);
        }
        return x;
    }

    private static Paintedline tried(Paintedline x) {
        for (int line = 0; line <= 2; line++) {
            x.frame(line, -line, 5 + line);
        }
        x.knock();
        x.knock();
        x.blot(0, 3, 1);
        x.blot(1, 3, 1);
        x.blot(2, 3, 1);
        return x;
    }

    public static void main(String[] args) {
        states();
        actsThatThrow();
        asksThatThrow();
        laysThatThrow();
        fullLines();
        nothingTakenBack();
        nothingToDo();
        refused();
        asks();
        CHECK.end();
    }

    /** The tests below say something only if these objects are as they say. */
    private static void states() {
        CHECK.about("the objects of this test");
        for (int line = 0; line <= 1; line++) {
            CHECK.due("busy, ACTS", busy().acts(line, 0), 3);
            CHECK.due("busy, TAKEN", busy().acts(line, 1), 2);
            CHECK.due("busy, text", busy().text(line), "-2147483648=0 0=1 2=6 4=1 10=0");
        }
        CHECK.due("busy, ACTS of 2", busy().acts(2, 0), 2);
        CHECK.due("busy, TAKEN of 2", busy().acts(2, 1), 1);
        CHECK.due("full for 2, WEIGHTS", fullFor2().acts(0, 2), 39);
        CHECK.due("full for 2, TAKEN", fullFor2().acts(0, 1), 1);
        CHECK.due("full for 2, NONE", fullFor2().length(0, 0), 0);
        CHECK.due("full for 1, WEIGHTS", fullFor1().acts(0, 2), 40);
        CHECK.due("full for 1, TAKEN", fullFor1().acts(0, 1), 1);
        CHECK.due("full for 1, NONE", fullFor1().length(0, 0), 4294967296L);
        CHECK.due("full for 0, ACTS", fullFor0().acts(0, 0), 16);
        CHECK.yes("all are sound", busy().isSound() && fullFor2().isSound() && fullFor1().isSound()
                && fullFor0().isSound());
    }

    // ---- what the values of a call may be

    private static int[][] ones(int... values) {
        int[][] all = new int[values.length][];
        for (int i = 0; i < values.length; i++) {
            all[i] = new int[] {values[i]};
        }
        return all;
    }

    private static Slot line() {
        return new Slot(INDEX, ones(0), ones(-1, 3, LEAST, GREATEST));
    }

    private static Slot point() {
        return new Slot(VALUE, ones(3, LEAST, GREATEST), ones());
    }

    private static Slot order() {
        return new Slot(VALUE, new int[][] {{4, 4}, {LEAST, GREATEST}},
                new int[][] {{1, 0}, {GREATEST, LEAST}, {LEAST + 1, LEAST}, {GREATEST, GREATEST - 1}, {0, -1}});
    }

    private static Slot within(int least, int most) {
        return new Slot(VALUE, ones(least, most), ones(least - 1, most + 1, LEAST, GREATEST));
    }

    private static Slot atLeast(int least) {
        return new Slot(VALUE, ones(least, GREATEST), ones(least - 1, -1, LEAST));
    }

    private static Slot place(int size) {
        return new Slot(INDEX, ones(0, size - 1), ones(-1, size, LEAST, GREATEST));
    }

    /** NUMBERS of ACTS: 0, of those in TAKEN, one that was never, and others that none can have. */
    private static Slot number() {
        return new Slot(VALUE, ones(1, 3), ones(0, 4, 5, 6, -1, LEAST, GREATEST));
    }

    // ---- calls that throw

    private static void actsThatThrow() {
        throwing("paint", (x, v) -> x.paint(v[0], v[1], v[2], v[3]), line(), order(), within(1, 7));
        throwing("cut", (x, v) -> x.cut(v[0], v[1], v[2]), line(), order());
        throwing("fill", (x, v) -> x.fill(v[0], v[1], v[2]), line(), point(), within(0, 7));
        throwing("allot", (x, v) -> x.allot(v[0], v[1], v[2]), line(), atLeast(1), within(1, 7));
        throwing("peel", (x, v) -> x.peel(v[0], v[1]), line(), within(0, 1));
        throwing("shift", (x, v) -> x.shift(v[0], v[1]), line(), point());
        throwing("mirror", (x, v) -> x.mirror(v[0]), line());
        throwing("dye", (x, v) -> x.dye(v[0], v[1], v[2]), line(), within(0, 7), within(0, 7));
        throwing("undo", (x, v) -> x.undo(v[0]), line());
        throwing("again", (x, v) -> x.again(v[0]), line());
        throwingIf(UnchangedTest::busy, "takeOut", (x, v) -> x.takeOut(v[0], v[1]), line(), number());
        throwing("wash", (x, v) -> x.wash(v[0]), line());
        throwing("frame", (x, v) -> x.frame(v[0], v[1], v[2]), line(), order());
        throwing("blot", (x, v) -> x.blot(v[0], v[1], v[2]), line(), point(), within(0, 7));
    }

    private static void asksThatThrow() {
        throwing("colour", (x, v) -> x.colour(v[0], v[1]), line(), point());
        throwing("begin", (x, v) -> x.begin(v[0], v[1]), line(), point());
        throwing("end", (x, v) -> x.end(v[0], v[1]), line(), point());
        throwing("giver", (x, v) -> x.giver(v[0], v[1]), line(), point());
        throwingIf(UnchangedTest::busy, "under", (x, v) -> x.under(v[0], v[1], v[2]), line(), point(), within(0, 3));
        throwing("length", (x, v) -> x.length(v[0], v[1]), line(), within(0, 7));
        throwing("ranges", (x, v) -> x.ranges(v[0], v[1]), line(), within(-1, 7));
        throwingIf(UnchangedTest::busy, "range", (x, v) -> x.range(v[0], v[1], v[2]), line(), place(5), within(0, 3));
        throwing("text", (x, v) -> x.text(v[0]), line());
        throwing("next", (x, v) -> x.next(v[0], v[1], v[2]), line(), point(), within(0, 7));
        throwing("before", (x, v) -> x.before(v[0], v[1], v[2]), line(), point(), within(0, 7));
        throwing("nearest", (x, v) -> x.nearest(v[0], v[1], v[2]), line(), point(), within(0, 7));
        throwing("count", (x, v) -> x.count(v[0], v[1], v[2], v[3]), line(), order(), within(0, 7));
        throwing("covers", (x, v) -> x.covers(v[0], v[1], v[2], v[3]), line(), order(), within(0, 7));
        throwing("pieces", (x, v) -> x.pieces(v[0], v[1], v[2]), line(), order());
        throwing("window", (x, v) -> x.window(v[0], v[1], v[1]), line(), point());
        throwing("window, refused anyway,", (x, v) -> x.window(v[0], v[1], v[1] - 1), line(), point());
        throwing("edge", (x, v) -> x.edge(v[0], v[1], v[2], v[3]), line(), order(), within(0, 1));
        throwing("framed", (x, v) -> x.framed(v[0], v[1]), line(), within(0, 5));
        throwing("inner", (x, v) -> x.inner(v[0], v[1], v[1]), line(), point());
        throwing("inner, refused anyway,", (x, v) -> x.inner(v[0], v[1], v[1] - 1), line(), point());
        throwing("longest", (x, v) -> x.longest(v[0], v[1], v[2]), line(), atLeast(0), within(0, 3));
        throwing("gap", (x, v) -> x.gap(v[0], v[1]), line(), atLeast(1));
        throwing("same", (x, v) -> x.same(v[0], v[1]), line(), line());
        throwing("differ", (x, v) -> x.differ(v[0], v[1]), line(), line());
        throwing("meeting", (x, v) -> x.meeting(v[0], v[1]), line(), line());
        throwing("everywhere", (x, v) -> x.everywhere(v[0]), within(0, 7));
        throwing("acts", (x, v) -> x.acts(v[0], v[1]), line(), within(0, 3));
        throwingIf(UnchangedTest::busy, "act", (x, v) -> x.act(v[0], v[1], v[2]), line(), place(3), within(0, 5));
        throwing("tried", (x, v) -> x.tried(v[0]), within(0, 1));
        throwing("wouldBe", (x, v) -> x.wouldBe(v[0], v[1], v[2], v[3]), line(), order(), within(0, 7));
        throwing("wouldFall", (x, v) -> x.wouldFall(v[0], v[1]), line(), point());
        throwingIf(UnchangedTest::busy, "without", (x, v) -> x.without(v[0], v[1], v[2]), line(), number(),
                within(0, 2));
        throwing("eitherOrder", (x, v) -> x.eitherOrder(v[0], v[1], v[2], v[3], v[4]), line(), order(), order());
    }

    /** On a line with room, on full ones and on one that was told nothing. */
    private static void throwing(String name, Call call, Slot... slots) {
        throwingIf(UnchangedTest::busy, name, call, slots);
        throwingIf(UnchangedTest::fullFor2, name + " on a full line", call, slots);
        throwingIf(UnchangedTest::fullFor0, name + " on a full row", call, slots);
        throwingIf(Paintedline::new, name + " on a new object", call, slots);
    }

    /** Each mixture of right and wrong values; the right ones alone throw nothing if the line is busy. */
    private static void throwingIf(Supplier<Paintedline> made, String name, Call call, Slot... slots) {
        CHECK.about("the values of a call");
        String was = Whole.of(made.get());
        boolean full = !Whole.of(busy()).equals(was);
        List<Mix> mixes = new ArrayList<>();
        mix(slots, 0, new Mix(new int[0], null), mixes);
        for (Mix one : mixes) {
            if (one.thrown() != null) {
                refusedOne(made, name, call, one.values(), one.thrown(), was);
            } else if (!full) {
                Paintedline x = made.get();
                String told = name + " " + java.util.Arrays.toString(one.values());
                CHECK.due(told + " throws", Check.nameOfThrown(() -> call.on(x, one.values())), "nothing");
                CHECK.yes("isSound() behind " + told, x.isSound());
            }
        }
    }

    private static void mix(Slot[] slots, int next, Mix ahead, List<Mix> mixes) {
        if (next == slots.length) {
            mixes.add(ahead);
            return;
        }
        Slot slot = slots[next];
        for (int[] right : slot.right()) {
            mix(slots, next + 1, new Mix(joined(ahead.values(), right), ahead.thrown()), mixes);
        }
        // The document names IndexOutOfBoundsException ahead of IllegalArgumentException everywhere.
        Class<?> first = ahead.thrown() == INDEX ? INDEX : slot.thrown();
        for (int[] wrong : slot.wrong()) {
            mix(slots, next + 1, new Mix(joined(ahead.values(), wrong), first), mixes);
        }
    }

    private static int[] joined(int[] row, int[] more) {
        int[] all = java.util.Arrays.copyOf(row, row.length + more.length);
        System.arraycopy(more, 0, all, row.length, more.length);
        return all;
    }

    private static void refusedOne(Supplier<Paintedline> made, String name, Call call, int[] v, Class<?> due,
            String was) {
        Paintedline x = made.get();
        String told = name + " " + java.util.Arrays.toString(v);
        CHECK.due(told + " throws", Check.nameOfThrown(() -> call.on(x, v)), due.getSimpleName());
        CHECK.due("the whole object behind " + told, Whole.of(x), was);
    }

    /** "line or other is not 0 to 2" is named ahead of "other is line", and that ahead of FULL. */
    private static void laysThatThrow() {
        CHECK.about("10 and 11: lay and meet");
        int[] lines = {-1, 0, 1, 2, 3, LEAST, GREATEST};
        List<Supplier<Paintedline>> states = List.of(UnchangedTest::busy, UnchangedTest::fullFor2,
                UnchangedTest::fullFor0, Paintedline::new);
        for (Supplier<Paintedline> made : states) {
            String was = Whole.of(made.get());
            for (int line : lines) {
                for (int other : lines) {
                    boolean outside = line < 0 || line > 2 || other < 0 || other > 2;
                    if (outside || line == other) {
                        int[] v = {line, other};
                        Class<?> due = outside ? INDEX : VALUE;
                        refusedOne(made, "lay", (x, w) -> x.lay(w[0], w[1]), v, due, was);
                        refusedOne(made, "meet", (x, w) -> x.meet(w[0], w[1]), v, due, was);
                    }
                }
            }
        }
    }

    // ---- FULL, and nothing to take back

    private static void full(Supplier<Paintedline> made, String name, Call call) {
        refusedOne(made, name, call, new int[0], STATE, Whole.of(made.get()));
    }

    private static void fullLines() {
        CHECK.about("2 to 6: FULL for 2");
        for (Supplier<Paintedline> made : List.<Supplier<Paintedline>>of(UnchangedTest::fullFor2,
                UnchangedTest::fullFor1, UnchangedTest::fullFor0)) {
            full(made, "paint", (x, v) -> x.paint(0, 0, 0, 1));
            full(made, "cut", (x, v) -> x.cut(0, 0, 0));
            full(made, "fill", (x, v) -> x.fill(0, 0, 0));
            full(made, "allot, whether or not there is such a RANGE,", (x, v) -> x.allot(0, 1, 1));
            full(made, "allot, whether or not there is such a RANGE,", (x, v) -> x.allot(0, GREATEST, 1));
            full(made, "peel, whether or not there is such a RANGE,", (x, v) -> x.peel(0, 0));
            full(made, "peel, whether or not there is such a RANGE,", (x, v) -> x.peel(0, 1));
            full(made, "lay", (x, v) -> x.lay(0, 1));
            full(made, "meet", (x, v) -> x.meet(0, 1));
        }
        CHECK.about("7: FULL for 1");
        full(UnchangedTest::fullFor1, "shift", (x, v) -> x.shift(0, 1));
        full(UnchangedTest::fullFor1, "shift by 0", (x, v) -> x.shift(0, 0));
        full(UnchangedTest::fullFor0, "shift", (x, v) -> x.shift(0, 1));
        CHECK.due("shift if it is FULL for 2 alone", fullFor2().shift(0, 0), 0);
        CHECK.about("8 to 11: FULL for 0");
        full(UnchangedTest::fullFor0, "mirror", (x, v) -> x.mirror(0));
        full(UnchangedTest::fullFor0, "dye", (x, v) -> x.dye(0, 1, 1));
        full(UnchangedTest::fullFor0, "lay of weight 0", (x, v) -> x.lay(0, 2));
        full(UnchangedTest::fullFor0, "meet of weight 0", (x, v) -> x.meet(0, 2));
        int next = fullFor1().acts(0, 3) + 1;
        CHECK.due("mirror if it is FULL for 1 alone", fullFor1().mirror(0), next);
        CHECK.due("dye if it is FULL for 1 alone", fullFor1().dye(0, 1, 2), 0);
        CHECK.due("lay of weight 0 if it is FULL for 1 alone", fullFor1().lay(0, 2), next);
        CHECK.due("meet of weight 0 if it is FULL for 1 alone", fullFor1().meet(0, 2), next);
    }

    private static Paintedline allTaken() {
        Paintedline x = busy();
        x.undo(0);
        x.undo(0);
        x.undo(0);
        return x;
    }

    private static Paintedline noneTaken() {
        Paintedline x = busy();
        x.again(0);
        x.again(0);
        return x;
    }

    private static void nothingTakenBack() {
        CHECK.about("12: there is no ACT in the row");
        full(UnchangedTest::allTaken, "undo with all in TAKEN", (x, v) -> x.undo(0));
        full(Paintedline::new, "undo of a new object", (x, v) -> x.undo(2));
        CHECK.about("13: TAKEN is empty");
        full(UnchangedTest::noneTaken, "again with all in the row", (x, v) -> x.again(0));
        full(Paintedline::new, "again on a new object", (x, v) -> x.again(2));
        full(UnchangedTest::fullFor0, "again on a full row", (x, v) -> x.again(0));
    }

    // ---- calls that are answered and change nothing

    private static void answered(Supplier<Paintedline> made, String name, Call call, Object due) {
        Paintedline x = made.get();
        CHECK.due(name, call.on(x, new int[0]), due);
        CHECK.due("the whole object behind " + name, Whole.of(x), Whole.of(made.get()));
    }

    private static Paintedline paintedAll() {
        Paintedline x = busy();
        x.dye(0, 0, 7);
        x.shift(0, 5);
        x.undo(0);
        return x;
    }

    /** RANGES of NONE of the LENGTHS 9 and 1 alone. */
    private static Paintedline smallGaps() {
        Paintedline x = paintedAll();
        x.cut(0, 100, 108);
        x.cut(0, 110, 110);
        x.mirror(0);
        x.undo(0);
        return x;
    }

    private static Paintedline paintedNothing() {
        Paintedline x = busy();
        x.cut(0, LEAST, GREATEST);
        x.paint(0, 0, 0, 1);
        x.undo(0);
        return x;
    }

    private static void nothingToDo() {
        CHECK.about("5: there is no ACT then, TAKEN stays");
        answered(UnchangedTest::paintedAll, "allot of 1", (x, v) -> x.allot(0, 1, 1), 2147483648L);
        answered(UnchangedTest::smallGaps, "allot of 10", (x, v) -> x.allot(0, 10, 1), 2147483648L);
        answered(UnchangedTest::smallGaps, "allot of 2147483647", (x, v) -> x.allot(0, GREATEST, 1), 2147483648L);
        CHECK.about("6: there is no ACT then, TAKEN stays");
        answered(UnchangedTest::paintedNothing, "peel of the first", (x, v) -> x.peel(0, 0), 0);
        answered(UnchangedTest::paintedNothing, "peel of the last", (x, v) -> x.peel(0, 1), 0);
    }

    private static void refused() {
        CHECK.about("34 and 37: REFUSED");
        answered(UnchangedTest::busy, "window", (x, v) -> x.window(0, 1, 0), -9);
        answered(UnchangedTest::busy, "inner", (x, v) -> x.inner(0, 1, 0), -9);
        answered(UnchangedTest::busy, "inner outside of the FRAME", (x, v) -> x.inner(0, 1, 99), -9);
        CHECK.about("4 and 17: a BLOT leaves the LINE as it is, and is counted");
        for (int line = 0; line <= 2; line++) {
            Paintedline x = busy();
            CHECK.due("blot", x.blot(line, 3, 0), -9);
            CHECK.due("BLOTS", x.tried(1), 4);
            CHECK.due("KNOCKS", x.tried(0), 2);
            Paintedline y = busy();
            y.blot((line + 1) % 3, GREATEST, 7);
            CHECK.due("the whole object behind a blot", Whole.of(x), Whole.of(y));
        }
        CHECK.about("18: a KNOCK is counted, and all else stays");
        Paintedline x = busy();
        CHECK.due("knock", x.knock(), 3);
        CHECK.due("KNOCKS", x.tried(0), 3);
        CHECK.due("BLOTS", x.tried(1), 3);
        String was = Whole.of(busy());
        String is = Whole.of(x);
        CHECK.due("the lines behind a knock", is.substring(is.indexOf("BLOTS")), was.substring(was.indexOf("BLOTS")));
    }

    /** "What one asks for changes nothing." */
    private static void asks() {
        CHECK.about("what one asks for changes nothing");
        for (Supplier<Paintedline> made : List.<Supplier<Paintedline>>of(UnchangedTest::busy, UnchangedTest::fullFor2,
                UnchangedTest::fullFor1, UnchangedTest::fullFor0)) {
            String was = Whole.of(made.get());
            Call[] all = allAsks();
            for (int i = 0; i < all.length; i++) {
                Paintedline x = made.get();
                Object once = all[i].on(x, new int[0]);
                CHECK.due("ask " + i + " once more", all[i].on(x, new int[0]), once);
                CHECK.due("the whole object behind ask " + i, Whole.of(x), was);
            }
        }
    }

    private static Call[] allAsks() {
        return new Call[] {
            (x, v) -> x.colour(0, 3), (x, v) -> x.begin(0, 3), (x, v) -> x.end(0, 3), (x, v) -> x.giver(0, 3),
            (x, v) -> x.under(0, 3, 2), (x, v) -> x.length(0, 1), (x, v) -> x.ranges(0, -1),
            (x, v) -> x.range(0, 0, 1), (x, v) -> x.text(0), (x, v) -> x.next(0, 3, 1), (x, v) -> x.before(0, 3, 1),
            (x, v) -> x.nearest(0, 3, 1), (x, v) -> x.count(0, 3, 9, 1), (x, v) -> x.covers(0, 3, 9, 1),
            (x, v) -> x.pieces(0, 3, 9), (x, v) -> x.window(0, 3, 9), (x, v) -> x.edge(0, 3, 9, 0),
            (x, v) -> x.edge(0, 3, 9, 1), (x, v) -> x.framed(0, 0), (x, v) -> x.framed(0, 5),
            (x, v) -> x.inner(0, 3, 4), (x, v) -> x.longest(0, 1, 3), (x, v) -> x.gap(0, 2), (x, v) -> x.same(0, 1),
            (x, v) -> x.differ(0, 1), (x, v) -> x.meeting(0, 1), (x, v) -> x.everywhere(0), (x, v) -> x.acts(0, 2),
            (x, v) -> x.act(0, 1, 3), (x, v) -> x.tried(0), (x, v) -> x.tried(1),
            (x, v) -> x.wouldBe(0, 3, 9, 4), (x, v) -> x.wouldFall(0, GREATEST),
            (x, v) -> x.without(0, 2, 0), (x, v) -> x.without(0, 2, 1), (x, v) -> x.without(0, 2, 2),
            (x, v) -> x.eitherOrder(0, 3, 9, 4, 5), (x, v) -> x.isSound(), (x, v) -> x.digest(),
        };
    }

    private UnchangedTest() {
    }
}

import java.util.ArrayList;
import java.util.List;
import java.util.Random;
import java.util.function.Supplier;

/** Long runs of chosen calls on the program and on the model; the seeds are fixed, so each run is the same. */
final class ModelTest {
    private static final int RUNS = 600;
    private static final int CALLS = 400;
    private static final int[] EDGES = {
        Integer.MIN_VALUE, Integer.MIN_VALUE + 1, Integer.MIN_VALUE + 2, -1073741824, -1, 0, 1, 1073741823,
        Integer.MAX_VALUE - 2, Integer.MAX_VALUE - 1, Integer.MAX_VALUE};

    private static final Check CHECK = new Check();

    private final Random random;
    private final Paintedline x = new Paintedline();
    private final Model model = new Model();
    private final List<String> calls = new ArrayList<>();
    private final int busy;
    private final int spread;
    private boolean wrong = false;

    private ModelTest(int seed) {
        random = new Random(seed);
        // Some runs go on one line for the most part, so that its row is long.
        busy = seed % 4;
        // Far apart, PAINTS seldom hide one another, so that there are many RANGES.
        spread = seed % 3 == 0 ? 4000 : 30;
    }

    public static void main(String[] args) {
        for (int seed = 0; seed < RUNS; seed++) {
            new ModelTest(seed).run();
        }
        CHECK.end();
    }

    private void run() {
        // takeBackMany adds up to 33 calls to a run; an object is used for at most 512.
        for (int i = 0; i < CALLS && !wrong && calls.size() < 470; i++) {
            if (random.nextInt(100) < 45) {
                change();
            } else {
                ask();
            }
        }
    }

    private void compare(String call, String want, Supplier<Object> run) {
        String got;
        try {
            got = "" + run.get();
        } catch (RuntimeException thrown) {
            got = "throws." + thrown.getClass().getSimpleName();
        }
        calls.add(call + " -> " + got);
        CHECK.due(call, got, want);
        if (!got.equals(want)) {
            wrong = true;
            calls.forEach(System.out::println);
        }
    }

    private boolean seldom() {
        return random.nextInt(60) == 0;
    }

    private int line() {
        if (seldom()) {
            return outside(0, 2);
        }
        return busy < 3 && random.nextInt(3) != 0 ? busy : random.nextInt(3);
    }

    private int other(int line) {
        return seldom() ? 3 : Math.floorMod(line + 1 + random.nextInt(2), 3);
    }

    private int outside(int least, int most) {
        int[] values = {least - 1, most + 1, Integer.MIN_VALUE, Integer.MAX_VALUE};
        return values[random.nextInt(values.length)];
    }

    private int upTo(int least, int most) {
        if (seldom()) {
            return outside(least, most);
        }
        return least + random.nextInt(most - least + 1);
    }

    private int point() {
        int sort = random.nextInt(20);
        if (sort < 3) {
            return EDGES[random.nextInt(EDGES.length)];
        }
        return sort == 3 ? random.nextInt() : random.nextInt(2 * spread + 1) - spread;
    }

    private int by() {
        int sort = random.nextInt(20);
        if (sort == 0) {
            return EDGES[random.nextInt(EDGES.length)];
        }
        return sort == 1 ? random.nextInt() : random.nextInt(21) - 10;
    }

    /** A point from "from" on, or seldom one below it. */
    private int behind(int from) {
        if (seldom()) {
            return from == Integer.MIN_VALUE ? from : from - 1;
        }
        int to = random.nextInt(4) == 0 ? point() : (int) Math.min(Integer.MAX_VALUE, from + (long) random.nextInt(12));
        return Math.max(from, to);
    }

    private int numberOf(int line) {
        boolean isLine = line >= 0 && line <= 2;
        if (!isLine || model.lines[line].row.isEmpty() || random.nextInt(12) == 0) {
            return random.nextInt(30) - 1;
        }
        List<Model.Act> row = model.lines[line].row;
        return row.get(random.nextInt(row.size())).number();
    }

    private int actsOf(int line) {
        return line >= 0 && line <= 2 ? model.lines[line].row.size() : 0;
    }

    private int rangesOf(int line) {
        return line >= 0 && line <= 2 ? model.lines[line].now.size() : 1;
    }

    private static String told(String name, int... values) {
        StringBuilder text = new StringBuilder(name);
        for (int value : values) {
            text.append(' ').append(value);
        }
        return text.toString();
    }

    private void change() {
        int a = line();
        int p = point();
        int q = behind(p);
        int c = upTo(0, 7);
        int c2 = upTo(0, 7);
        int o = random.nextInt(10) == 0 ? a : other(a);
        int kind = random.nextInt(40);
        if (kind < 7) {
            int shade = upTo(1, 7);
            compare(told("paint", a, p, q, shade), model.paint(a, p, q, shade, false), () -> x.paint(a, p, q, shade));
        } else if (kind < 9) {
            compare(told("cut", a, p, q), model.paint(a, p, q, 0, true), () -> x.cut(a, p, q));
        } else if (kind < 11) {
            compare(told("fill", a, p, c), model.fill(a, p, c), () -> x.fill(a, p, c));
        } else if (kind < 13) {
            int most = random.nextInt(4) == 0 ? Math.abs(point() | 1) : upTo(1, 12);
            compare(told("allot", a, most, c), model.allot(a, most, c), () -> x.allot(a, most, c));
        } else if (kind < 14) {
            int side = upTo(0, 1);
            compare(told("peel", a, side), model.peel(a, side), () -> x.peel(a, side));
        } else if (kind < 17) {
            int by = by();
            compare(told("shift", a, by), model.shift(a, by), () -> x.shift(a, by));
        } else if (kind < 19) {
            compare(told("mirror", a), model.mirror(a), () -> x.mirror(a));
        } else if (kind < 21) {
            compare(told("dye", a, c, c2), model.dye(a, c, c2), () -> x.dye(a, c, c2));
        } else if (kind < 24) {
            compare(told("lay", a, o), model.join(a, o, 5), () -> x.lay(a, o));
        } else if (kind < 26) {
            compare(told("meet", a, o), model.join(a, o, 6), () -> x.meet(a, o));
        } else if (kind < 29) {
            compare(told("undo", a), model.undo(a), () -> x.undo(a));
        } else if (kind < 31) {
            compare(told("again", a), model.again(a), () -> x.again(a));
        } else if (kind < 34) {
            int number = numberOf(a);
            compare(told("takeOut", a, number), model.takeOut(a, number), () -> x.takeOut(a, number));
        } else if (kind == 34) {
            if (random.nextInt(4) == 0) {
                compare(told("wash", a), model.wash(a), () -> x.wash(a));
            }
        } else if (kind == 35) {
            compare(told("frame", a, p, q), model.frame(a, p, q), () -> x.frame(a, p, q));
        } else if (kind == 36) {
            takeBackMany();
        } else if (kind == 37) {
            compare(told("blot", a, p, c), model.blot(a, c), () -> x.blot(a, p, c));
        } else {
            compare("knock", model.knock(), x::knock);
        }
    }

    /** Several UNDOS and then AGAINS, or nothing would be long in TAKEN. */
    private void takeBackMany() {
        int a = line();
        int undone = random.nextInt(actsOf(a) + 1);
        for (int i = 0; i < undone; i++) {
            compare(told("undo", a), model.undo(a), () -> x.undo(a));
        }
        int done = random.nextInt(undone + 2);
        for (int i = 0; i < done; i++) {
            compare(told("again", a), model.again(a), () -> x.again(a));
        }
    }

    private void ask() {
        int kind = random.nextInt(33);
        if (kind < 12) {
            askPoint(kind);
        } else if (kind < 22) {
            askRange(kind);
        } else {
            askRest(kind);
        }
    }

    private void askPoint(int kind) {
        int a = line();
        int p = point();
        int q = behind(p);
        int c = upTo(0, 7);
        switch (kind) {
            case 0 -> compare(told("colour", a, p), model.atPoint(a, p, 0), () -> x.colour(a, p));
            case 1 -> compare(told("begin", a, p), model.atPoint(a, p, 1), () -> x.begin(a, p));
            case 2 -> compare(told("end", a, p), model.atPoint(a, p, 2), () -> x.end(a, p));
            case 3, 4 -> compare(told("giver", a, p), model.giver(a, p), () -> x.giver(a, p));
            case 5 -> {
                int acts = upTo(0, actsOf(a));
                compare(told("under", a, p, acts), model.under(a, p, acts), () -> x.under(a, p, acts));
            }
            case 6 -> compare(told("next", a, p, c), model.next(a, p, c), () -> x.next(a, p, c));
            case 7 -> compare(told("before", a, p, c), model.before(a, p, c), () -> x.before(a, p, c));
            case 8, 9 -> compare(told("nearest", a, p, c), model.nearest(a, p, c), () -> x.nearest(a, p, c));
            case 10 -> compare(told("count", a, p, q, c), model.count(a, p, q, c), () -> x.count(a, p, q, c));
            default -> {
                int shade = a >= 0 && a <= 2 && random.nextBoolean() ? Model.colourIn(model.lines[a].now, p) : c;
                compare(told("covers", a, p, q, shade), model.covers(a, p, q, shade), () -> x.covers(a, p, q, shade));
            }
        }
    }

    private void askRange(int kind) {
        int a = line();
        int p = point();
        int q = behind(p);
        switch (kind) {
            case 12 -> {
                int c = upTo(0, 7);
                compare(told("length", a, c), model.length(a, c), () -> x.length(a, c));
            }
            case 13 -> {
                int c = upTo(-1, 7);
                compare(told("ranges", a, c), model.countRanges(a, c), () -> x.ranges(a, c));
            }
            case 14 -> {
                int number = upTo(0, rangesOf(a) - 1);
                int what = upTo(0, 3);
                compare(told("range", a, number, what), model.range(a, number, what), () -> x.range(a, number, what));
            }
            case 15 -> compare(told("text", a), model.text(a), () -> x.text(a));
            case 16 -> compare(told("pieces", a, p, q), model.pieces(a, p, q), () -> x.pieces(a, p, q));
            case 17 -> compare(told("window", a, p, q), model.window(a, p, q, false), () -> x.window(a, p, q));
            case 18 -> compare(told("inner", a, p, q), model.window(a, p, q, true), () -> x.inner(a, p, q));
            case 19 -> {
                int side = upTo(0, 1);
                compare(told("edge", a, p, q, side), model.edge(a, p, q, side), () -> x.edge(a, p, q, side));
            }
            case 20 -> {
                int rank = upTo(0, random.nextInt(rangesOf(a)) + 1);
                int what = upTo(0, 3);
                compare(told("longest", a, rank, what), model.longest(a, rank, what), () -> x.longest(a, rank, what));
            }
            default -> {
                int most = random.nextInt(4) == 0 ? point() : upTo(1, 12);
                compare(told("gap", a, most), model.gap(a, most), () -> x.gap(a, most));
            }
        }
    }

    private void askRest(int kind) {
        int a = line();
        int o = line();
        int p = point();
        int q = behind(p);
        int c = upTo(0, 7);
        switch (kind) {
            case 22 -> compare(told("same", a, o), model.between(a, o, 0), () -> x.same(a, o));
            case 23 -> compare(told("differ", a, o), model.between(a, o, 1), () -> x.differ(a, o));
            case 24 -> compare(told("meeting", a, o), model.between(a, o, 2), () -> x.meeting(a, o));
            case 25 -> compare(told("everywhere", c), model.everywhere(c), () -> x.everywhere(c));
            case 26 -> {
                int what = upTo(0, 3);
                compare(told("acts", a, what), model.acts(a, what), () -> x.acts(a, what));
                int asked = upTo(0, 5);
                compare(told("framed", a, asked), model.framed(a, asked), () -> x.framed(a, asked));
            }
            case 27 -> {
                int place = actsOf(a) == 0 ? 0 : upTo(0, actsOf(a) - 1);
                int what = upTo(0, 5);
                compare(told("act", a, place, what), model.act(a, place, what), () -> x.act(a, place, what));
            }
            case 28 -> {
                int what = upTo(0, 1);
                compare(told("tried", what), model.tried(what), () -> x.tried(what));
            }
            case 29 -> compare(told("wouldBe", a, p, q, c), model.wouldBe(a, p, q, c), () -> x.wouldBe(a, p, q, c));
            case 30 -> {
                int by = by();
                compare(told("wouldFall", a, by), model.wouldFall(a, by), () -> x.wouldFall(a, by));
                int s = point();
                int t = behind(s);
                compare(told("eitherOrder", a, p, q, s, t), model.eitherOrder(a, p, q, s, t),
                        () -> x.eitherOrder(a, p, q, s, t));
            }
            case 31 -> {
                int number = numberOf(a);
                int what = upTo(0, 2);
                compare(told("without", a, number, what), model.without(a, number, what),
                        () -> x.without(a, number, what));
            }
            default -> {
                compare("isSound", model.isSound(), x::isSound);
                compare("digest", model.digest(), x::digest);
            }
        }
    }
}

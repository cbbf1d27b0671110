import java.lang.management.ManagementFactory;

/** What the calls of one run make, measured: rule 12, and the one room that all calls of a run live in. */
final class RoomTest {
    private static final int LEAST = Integer.MIN_VALUE;
    private static final int GREATEST = Integer.MAX_VALUE;

    // An object takes 16 bytes or more here, and an element 1: so these are 31,250 objects or 500,000
    // elements at the most. The room holds 600,000 and 7,300,000, on a machine that may count otherwise.
    private static final long MOST_BYTES = 500_000;
    private static final int CALLS = 480;

    private static final Check CHECK = new Check();

    private interface Call {
        void on(Paintedline x);
    }

    /** All three lines have 41 RANGES and, but for the line 2, 15 ACTS: as much as there can be, room for one. */
    private static Paintedline dearest() {
        Paintedline x = new Paintedline();
        for (int i = 0; i < 10; i++) {
            x.paint(0, LEAST + 100 + 4 * i, LEAST + 100 + 4 * i, 1 + i % 7);
            x.paint(1, LEAST + 102 + 4 * i, LEAST + 102 + 4 * i, 1 + i % 7);
        }
        x.lay(0, 1);
        x.wash(1);
        x.lay(1, 0);
        x.lay(2, 0);
        for (int i = 0; i < 4; i++) {
            x.dye(0, i, i);
        }
        for (int i = 0; i < 14; i++) {
            x.mirror(1);
        }
        return x;
    }

    public static void main(String[] args) {
        if (!(ManagementFactory.getThreadMXBean() instanceof com.sun.management.ThreadMXBean bean)) {
            System.out.println("this machine does not tell what a thread takes: nothing is measured");
            return;
        }
        for (int line = 0; line <= 2; line++) {
            CHECK.due("RANGES of the dearest lines", dearest().ranges(line, -1), 41);
        }
        CHECK.due("ACTS", dearest().acts(0, 0) + dearest().acts(1, 0), 30);
        acts(bean);
        asks(bean);
        CHECK.end();
    }

    private static void acts(com.sun.management.ThreadMXBean bean) {
        measure(bean, "mirror, undo", x -> {
            x.mirror(0);
            x.undo(0);
        });
        measure(bean, "dye, undo, again", x -> {
            x.dye(1, 1, 2);
            x.undo(1);
            x.again(1);
            x.undo(1);
        });
        measure(bean, "lay, takeOut", x -> {
            x.wash(1);
            x.lay(1, 2);
            x.takeOut(1, x.act(1, 0, 0));
            x.meet(1, 2);
        });
        measure(bean, "paint, cut, fill, allot, peel, shift", x -> {
            x.wash(0);
            x.paint(0, 0, 9, 1);
            x.cut(0, 3, 4);
            x.fill(0, 9, 2);
            x.allot(0, 100, 3);
            x.peel(0, 1);
            x.shift(0, GREATEST);
        });
        measure(bean, "frame, blot, knock", x -> {
            x.frame(0, LEAST, GREATEST);
            x.blot(0, 0, 1);
            x.knock();
        });
    }

    private static void asks(com.sun.management.ThreadMXBean bean) {
        measure(bean, "digest", x -> x.digest());
        measure(bean, "isSound", x -> x.isSound());
        measure(bean, "text", x -> x.text(0));
        measure(bean, "longest", x -> x.longest(0, 19, 3));
        measure(bean, "without", x -> x.without(0, 1, 1));
        measure(bean, "wouldBe", x -> x.wouldBe(0, 0, 9, 1));
        measure(bean, "wouldFall, eitherOrder", x -> {
            x.wouldFall(0, LEAST);
            x.eitherOrder(0, 0, 9, 5, 14);
        });
        measure(bean, "of two lines", x -> {
            x.same(0, 1);
            x.differ(0, 1);
            x.meeting(0, 1);
            x.everywhere(1);
        });
        measure(bean, "of a point", x -> {
            x.colour(0, 0);
            x.begin(0, 0);
            x.end(0, 0);
            x.giver(1, 0);
            x.under(1, 0, 3);
            x.next(0, 0, 7);
            x.before(0, 0, 7);
            x.nearest(0, 0, 7);
        });
        measure(bean, "of ranges", x -> {
            x.length(0, 1);
            x.ranges(0, -1);
            x.range(0, 40, 3);
            x.count(0, LEAST, GREATEST, 1);
            x.covers(0, LEAST, GREATEST, 0);
            x.pieces(0, LEAST, GREATEST);
            x.window(0, LEAST, GREATEST);
            x.edge(0, LEAST, GREATEST, 1);
            x.inner(0, LEAST, GREATEST);
            x.framed(0, 5);
            x.gap(0, GREATEST);
        });
    }

    private static void measure(com.sun.management.ThreadMXBean bean, String name, Call call) {
        // Once unmeasured, or what the machine takes to load a class would count as well.
        call.on(dearest());
        bean.getCurrentThreadAllocatedBytes();
        long before = bean.getCurrentThreadAllocatedBytes();
        Paintedline x = dearest();
        for (int i = 0; i < CALLS; i++) {
            call.on(x);
        }
        long bytes = bean.getCurrentThreadAllocatedBytes() - before;
        CHECK.due("bytes of " + name + ": " + bytes + ", so few", bytes <= MOST_BYTES, true);
    }

    private RoomTest() {
    }
}

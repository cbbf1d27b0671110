/** All that an object holds, as a text: what it tells, and what only shows by taking back and doing again. */
final class Whole {
    private static final int LEAST = Integer.MIN_VALUE;
    private static final int GREATEST = Integer.MAX_VALUE;

    private final Paintedline x;
    private final StringBuilder all = new StringBuilder();

    private Whole(Paintedline x) {
        this.x = x;
    }

    /** The object is spent behind it: compare with another one that was made in the same way. */
    static String of(Paintedline x) {
        Whole whole = new Whole(x);
        whole.addSeen();
        for (int line = 0; line <= 2; line++) {
            whole.addHidden(line);
        }
        return whole.all.toString();
    }

    private void add(String name, Object value) {
        all.append(name).append(' ').append(value).append('\n');
    }

    private void addSeen() {
        add("digest", x.digest());
        add("KNOCKS", x.tried(0));
        add("BLOTS", x.tried(1));
        for (int line = 0; line <= 2; line++) {
            add("line " + line, x.text(line));
            for (int what = 0; what <= 3; what++) {
                add("acts " + what, x.acts(line, what));
            }
            add("FRAME from", x.framed(line, 3));
            add("FRAME to", x.framed(line, 4));
        }
    }

    /** TAKEN by doing all of it again, the PICTURES by doing all that is left anew. */
    private void addHidden(int line) {
        int taken = x.acts(line, 1);
        for (int i = 0; i < taken; i++) {
            add("again", x.again(line));
            add("by it", x.text(line));
        }
        int told = x.acts(line, 0);
        for (int i = 0; i < told; i++) {
            add("givers", x.giver(line, LEAST) + " " + x.giver(line, 0) + " " + x.giver(line, GREATEST));
            add("undo", x.undo(line));
            add("left", x.text(line));
        }
    }
}

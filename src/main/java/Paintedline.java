/** Three lines of all whole numbers of an int, painted by ranges. */
public final class Paintedline {
    private static final int LEAST = -2147483648;
    private static final int GREATEST = 2147483647;
    private static final long NOWHERE = 2147483648L;
    private static final long ALL_POINTS = 4294967296L;
    private static final int REFUSED = -9;
    private static final int NONE = 0;
    private static final int LAST_COLOUR = 7;

    private static final int PAINT = 1;
    private static final int SHIFT = 2;
    private static final int MIRROR = 3;
    private static final int DYE = 4;
    private static final int LAY = 5;
    private static final int MEET = 6;

    private static final int MOST_ACTS = 16;
    private static final int MOST_WEIGHT = 40;

    private final Line line0 = new Line();
    private final Line line1 = new Line();
    private final Line line2 = new Line();
    private int knocks = 0;
    private int blots = 0;

    // Rows to reckon on, made once, so that no call makes any of its own.
    private final Picture bench = new Picture();
    private final Picture trial = new Picture();
    private final Picture secondTrial = new Picture();
    private final StringBuilder sheet = new StringBuilder();

    /** The ranges of one whole line, by rising points. */
    private static final class Picture {
        // 1 and the most weight, and 2 more for a paint that only would be.
        private static final int ROOM = 1 + MOST_WEIGHT + 2;

        private final int[] begins = new int[ROOM];
        private final int[] colours = new int[ROOM];
        private int size = 0;

        private Picture() {
            blank();
        }

        private void blank() {
            size = 0;
            put(LEAST, NONE);
        }

        /** Appends a range, which melts into the last one if that has its colour. */
        private void put(int from, int shade) {
            if (size > 0 && size <= colours.length && colours[size - 1] == shade) {
                return;
            }
            if (size >= 0 && size < begins.length && size < colours.length) {
                begins[size] = from;
                colours[size] = shade;
                size++;
            }
        }

        private int beginAt(int place) {
            return place >= 0 && place < size && place < begins.length ? begins[place] : LEAST;
        }

        private int endAt(int place) {
            int next = place + 1;
            return next > 0 && next < size && next < begins.length ? begins[next] - 1 : GREATEST;
        }

        private int shadeAt(int place) {
            return place >= 0 && place < size && place < colours.length ? colours[place] : NONE;
        }

        private long extentAt(int place) {
            return (long) endAt(place) - beginAt(place) + 1;
        }

        /** BEGIN, END, COLOUR or LENGTH of a range. */
        private long detailAt(int place, int what) {
            switch (what) {
                case 0:
                    return beginAt(place);
                case 1:
                    return endAt(place);
                case 2:
                    return shadeAt(place);
                default:
                    return extentAt(place);
            }
        }

        /** The number of the range that a point is in. */
        private int placeOf(int point) {
            int place = 0;
            for (int i = 1; i < size && i < begins.length && begins[i] <= point; i++) {
                place = i;
            }
            return place;
        }

        private int shadeOf(int point) {
            return shadeAt(placeOf(point));
        }

        private void setCopy(Picture model) {
            size = 0;
            for (int i = 0; i < model.size; i++) {
                put(model.beginAt(i), model.shadeAt(i));
            }
        }

        private void setPainted(Picture model, int from, int to, int shade) {
            size = 0;
            for (int i = 0; i < model.size && model.beginAt(i) < from; i++) {
                put(model.beginAt(i), model.shadeAt(i));
            }
            put(from, shade);
            if (to < GREATEST) {
                int place = model.placeOf(to + 1);
                put(to + 1, model.shadeAt(place));
                for (int i = place + 1; i < model.size; i++) {
                    put(model.beginAt(i), model.shadeAt(i));
                }
            }
        }

        private void setShifted(Picture model, int by) {
            size = 0;
            if (by > 0) {
                put(LEAST, NONE);
            }
            for (int i = 0; i < model.size; i++) {
                long from = Math.max(LEAST, (long) model.beginAt(i) + by);
                long to = Math.min(GREATEST, (long) model.endAt(i) + by);
                if (from <= to) {
                    put((int) from, model.shadeAt(i));
                }
            }
            if (by < 0) {
                put((int) ((long) GREATEST + by + 1), NONE);
            }
        }

        private void setMirrored(Picture model) {
            size = 0;
            for (int i = model.size - 1; i >= 0; i--) {
                put(-1 - model.endAt(i), model.shadeAt(i));
            }
        }

        private void setDyed(Picture model, int shade, int newShade) {
            size = 0;
            for (int i = 0; i < model.size; i++) {
                int old = model.shadeAt(i);
                put(model.beginAt(i), old == shade ? newShade : old);
            }
        }

        /** A lay (or a meet) of the upper picture on the lower one. */
        private void setJoined(Picture lower, Picture upper, boolean meets) {
            size = 0;
            int i = 0;
            int j = 0;
            int steps = lower.size + upper.size;
            for (int step = 0; step < steps && i < lower.size && j < upper.size; step++) {
                int low = lower.shadeAt(i);
                int high = upper.shadeAt(j);
                int from = Math.max(lower.beginAt(i), upper.beginAt(j));
                put(from, meets ? metShade(low, high) : laidShade(low, high));
                int lowEnd = lower.endAt(i);
                int highEnd = upper.endAt(j);
                i = lowEnd <= highEnd ? i + 1 : i;
                j = highEnd <= lowEnd ? j + 1 : j;
            }
        }

        private static int laidShade(int low, int high) {
            return high == NONE ? low : high;
        }

        private static int metShade(int low, int high) {
            return low == high ? low : NONE;
        }

        private boolean hasSameRanges(Picture other) {
            if (size != other.size) {
                return false;
            }
            for (int i = 0; i < size; i++) {
                if (beginAt(i) != other.beginAt(i) || shadeAt(i) != other.shadeAt(i)) {
                    return false;
                }
            }
            return true;
        }

        /** How many points have the same colour on both. */
        private long alike(Picture other, boolean withNone) {
            long sum = 0;
            int i = 0;
            int j = 0;
            int steps = size + other.size;
            for (int step = 0; step < steps && i < size && j < other.size; step++) {
                int ownEnd = endAt(i);
                int otherEnd = other.endAt(j);
                int shade = shadeAt(i);
                if (shade == other.shadeAt(j) && (withNone || shade != NONE)) {
                    int from = Math.max(beginAt(i), other.beginAt(j));
                    sum += (long) Math.min(ownEnd, otherEnd) - from + 1;
                }
                i = ownEnd <= otherEnd ? i + 1 : i;
                j = otherEnd <= ownEnd ? j + 1 : j;
            }
            return sum;
        }

        private long unlike(Picture other) {
            return ALL_POINTS - alike(other, true);
        }

        private long pointsIn(long from, long to, int shade) {
            long sum = 0;
            for (int i = 0; i < size; i++) {
                if (shadeAt(i) == shade) {
                    long first = Math.max(from, beginAt(i));
                    long last = Math.min(to, endAt(i));
                    sum += Math.max(0L, last - first + 1);
                }
            }
            return sum;
        }

        private long pointsOf(int shade) {
            return pointsIn(LEAST, GREATEST, shade);
        }

        /** How many points that are not NONE fall off by a shift. */
        private long falling(int by) {
            long from = by > 0 ? (long) GREATEST - by + 1 : LEAST;
            long to = by > 0 ? GREATEST : (long) LEAST - by - 1;
            return to - from + 1 - pointsIn(from, to, NONE);
        }

        private int beginsIn(int from, int to, boolean withNone) {
            int sum = 0;
            for (int i = 0; i < size; i++) {
                boolean asked = withNone || shadeAt(i) != NONE;
                if (asked && beginAt(i) >= from && beginAt(i) <= to) {
                    sum++;
                }
            }
            return sum;
        }

        private long firstBeginIn(int from, int to) {
            for (int i = 0; i < size; i++) {
                if (beginAt(i) >= from && beginAt(i) <= to) {
                    return beginAt(i);
                }
            }
            return NOWHERE;
        }

        private long lastBeginIn(int from, int to) {
            for (int i = size - 1; i >= 0; i--) {
                if (beginAt(i) >= from && beginAt(i) <= to) {
                    return beginAt(i);
                }
            }
            return NOWHERE;
        }

        private long firstFrom(int point, int shade) {
            for (int i = placeOf(point); i < size; i++) {
                if (shadeAt(i) == shade) {
                    return Math.max(point, beginAt(i));
                }
            }
            return NOWHERE;
        }

        private long lastUpTo(int point, int shade) {
            for (int i = placeOf(point); i >= 0; i--) {
                if (shadeAt(i) == shade) {
                    return Math.min(point, endAt(i));
                }
            }
            return NOWHERE;
        }

        private long firstGap(int extent) {
            for (int i = 0; i < size; i++) {
                if (shadeAt(i) == NONE && extentAt(i) >= extent) {
                    return beginAt(i);
                }
            }
            return NOWHERE;
        }

        /** The number of the first or the last range that is not NONE, or -1. */
        private int outerPlace(boolean last) {
            for (int i = 0; i < size; i++) {
                int place = last ? size - 1 - i : i;
                if (shadeAt(place) != NONE) {
                    return place;
                }
            }
            return -1;
        }

        /** How many ranges that are not NONE come ahead of one when the longest is first. */
        private int rankAt(int place) {
            int ahead = 0;
            for (int i = 0; i < size; i++) {
                boolean longer = extentAt(i) > extentAt(place);
                boolean earlier = extentAt(i) == extentAt(place) && i < place;
                if (shadeAt(i) != NONE && (longer || earlier)) {
                    ahead++;
                }
            }
            return ahead;
        }

        /** The number of the range of a rank, or -1. */
        private int placeOfRank(int rank) {
            for (int i = 0; i < size; i++) {
                if (shadeAt(i) != NONE && rankAt(i) == rank) {
                    return i;
                }
            }
            return -1;
        }

        private boolean neighboursDiffer() {
            for (int i = 1; i < size; i++) {
                if (shadeAt(i) == shadeAt(i - 1)) {
                    return false;
                }
            }
            return true;
        }
    }

    /** What was told to a line. */
    private static final class Act {
        private int number = 0;
        private int kind = 0;
        private int weight = 0;
        private int first = 0;
        private int second = 0;
        private int third = 0;
        private final Picture picture = new Picture();

        private int detail(int what) {
            switch (what) {
                case 0:
                    return number;
                case 1:
                    return kind;
                case 2:
                    return weight;
                case 3:
                    return first;
                case 4:
                    return second;
                default:
                    return third;
            }
        }

        /** A colour and this act as its giver, in one number. */
        private int giving(int shade) {
            return number * 8 + shade;
        }
    }

    /** A line: its colours now, its acts and its frame. */
    private static final class Line {
        private final Picture now = new Picture();
        // The row stands at the places below told; TAKEN behind it, the last one taken first.
        // Both together are never more than MOST_ACTS, as a new act empties TAKEN.
        private final Act[] row = new Act[MOST_ACTS];
        private final Act noAct = new Act();
        private int told = 0;
        private int taken = 0;
        private int greatest = 0;
        private int frameFrom = LEAST;
        private int frameTo = GREATEST;

        private Line() {
            for (int i = 0; i < row.length; i++) {
                row[i] = new Act();
            }
        }

        private Act actAt(int place) {
            if (place < 0 || place >= row.length) {
                return noAct;
            }
            Act found = row[place];
            return found == null ? noAct : found;
        }

        private int allWeights() {
            int sum = 0;
            for (int i = 0; i < told; i++) {
                sum += actAt(i).weight;
            }
            return sum;
        }

        private boolean isFull(int weight) {
            return told >= MOST_ACTS || allWeights() + weight > MOST_WEIGHT;
        }

        /** The place of the act with a number, or -1. */
        private int placeOfNumber(int number) {
            for (int i = 0; i < told; i++) {
                if (actAt(i).number == number) {
                    return i;
                }
            }
            return -1;
        }

        /** Drops an act; its object goes behind all others, to be used again. */
        private void drop(int place) {
            if (place < 0 || place >= told || place >= row.length) {
                return;
            }
            Act dropped = row[place];
            int last = row.length - 1;
            for (int i = place; i < last; i++) {
                row[i] = row[i + 1];
            }
            row[last] = dropped;
            told--;
            taken = 0;
        }
    }

    /** Creates three lines of NONE: as their fields are made. */
    public Paintedline() {
    }

    // ---- what is done

    public int paint(int line, int from, int to, int colour)
            throws IndexOutOfBoundsException, IllegalArgumentException, IllegalStateException {
        needLine(line);
        needOrder(from, to);
        needWithin(colour, 1, LAST_COLOUR);
        return tell(lineOf(line), PAINT, from, to, colour);
    }

    public int cut(int line, int from, int to)
            throws IndexOutOfBoundsException, IllegalArgumentException, IllegalStateException {
        needLine(line);
        needOrder(from, to);
        return tell(lineOf(line), PAINT, from, to, NONE);
    }

    public int fill(int line, int point, int colour)
            throws IndexOutOfBoundsException, IllegalArgumentException, IllegalStateException {
        needLine(line);
        needColour(colour);
        Line on = lineOf(line);
        int place = on.now.placeOf(point);
        return tell(on, PAINT, on.now.beginAt(place), on.now.endAt(place), colour);
    }

    public long allot(int line, int length, int colour)
            throws IndexOutOfBoundsException, IllegalArgumentException, IllegalStateException {
        needLine(line);
        needWithin(length, 1, GREATEST);
        needWithin(colour, 1, LAST_COLOUR);
        Line on = lineOf(line);
        needRoom(on, weightOf(PAINT, 0));
        long from = on.now.firstGap(length);
        if (from != NOWHERE) {
            tell(on, PAINT, (int) from, (int) (from + length - 1), colour);
        }
        return from;
    }

    public int peel(int line, int side)
            throws IndexOutOfBoundsException, IllegalArgumentException, IllegalStateException {
        needLine(line);
        needWithin(side, 0, 1);
        Line on = lineOf(line);
        needRoom(on, weightOf(PAINT, 0));
        int place = on.now.outerPlace(side == 1);
        if (place < 0) {
            return NONE;
        }
        int shade = on.now.shadeAt(place);
        tell(on, PAINT, on.now.beginAt(place), on.now.endAt(place), NONE);
        return shade;
    }

    public long shift(int line, int by) throws IndexOutOfBoundsException, IllegalStateException {
        needLine(line);
        Line on = lineOf(line);
        long falls = on.now.falling(by);
        tell(on, SHIFT, by, 0, 0);
        return falls;
    }

    public int mirror(int line) throws IndexOutOfBoundsException, IllegalStateException {
        needLine(line);
        return tell(lineOf(line), MIRROR, 0, 0, 0);
    }

    public long dye(int line, int colour, int other)
            throws IndexOutOfBoundsException, IllegalArgumentException, IllegalStateException {
        needLine(line);
        needColour(colour);
        needColour(other);
        Line on = lineOf(line);
        long changed = colour == other ? 0 : on.now.pointsOf(colour);
        tell(on, DYE, colour, other, 0);
        return changed;
    }

    public int lay(int line, int other)
            throws IndexOutOfBoundsException, IllegalArgumentException, IllegalStateException {
        needLine(line);
        needLine(other);
        needUnlike(line, other);
        return tell(lineOf(line), LAY, other, 0, 0);
    }

    public int meet(int line, int other)
            throws IndexOutOfBoundsException, IllegalArgumentException, IllegalStateException {
        needLine(line);
        needLine(other);
        needUnlike(line, other);
        return tell(lineOf(line), MEET, other, 0, 0);
    }

    public int undo(int line) throws IndexOutOfBoundsException, IllegalStateException {
        needLine(line);
        Line on = lineOf(line);
        needSome(on.told);
        on.told--;
        on.taken++;
        doAllAnew(on, on.now, -1);
        return on.actAt(on.told).number;
    }

    public int again(int line) throws IndexOutOfBoundsException, IllegalStateException {
        needLine(line);
        Line on = lineOf(line);
        needSome(on.taken);
        Act act = on.actAt(on.told);
        on.told++;
        on.taken--;
        doAct(act, on.now);
        return act.number;
    }

    public long takeOut(int line, int number) throws IndexOutOfBoundsException, IllegalArgumentException {
        needLine(line);
        Line on = lineOf(line);
        int place = on.placeOfNumber(number);
        needFound(place);
        doAllAnew(on, trial, place);
        long changed = on.now.unlike(trial);
        on.drop(place);
        on.now.setCopy(trial);
        return changed;
    }

    public int wash(int line) throws IndexOutOfBoundsException {
        needLine(line);
        Line on = lineOf(line);
        int were = on.told;
        on.told = 0;
        on.taken = 0;
        on.now.blank();
        return were;
    }

    public int frame(int line, int from, int to) throws IndexOutOfBoundsException, IllegalArgumentException {
        needLine(line);
        needOrder(from, to);
        Line on = lineOf(line);
        on.frameFrom = from;
        on.frameTo = to;
        return on.now.beginsIn(from, to, true);
    }

    public int blot(int line, int point, int colour) throws IndexOutOfBoundsException, IllegalArgumentException {
        needLine(line);
        needColour(colour);
        blots++;
        return REFUSED;
    }

    public int knock() {
        knocks++;
        return knocks;
    }

    // ---- what is asked

    public int colour(int line, int point) throws IndexOutOfBoundsException {
        needLine(line);
        return lineOf(line).now.shadeOf(point);
    }

    public int begin(int line, int point) throws IndexOutOfBoundsException {
        needLine(line);
        Picture now = lineOf(line).now;
        return now.beginAt(now.placeOf(point));
    }

    public int end(int line, int point) throws IndexOutOfBoundsException {
        needLine(line);
        Picture now = lineOf(line).now;
        return now.endAt(now.placeOf(point));
    }

    public int giver(int line, int point) throws IndexOutOfBoundsException {
        needLine(line);
        Line on = lineOf(line);
        return giverIn(tellBack(on, point, on.told));
    }

    public int under(int line, int point, int acts) throws IndexOutOfBoundsException, IllegalArgumentException {
        needLine(line);
        Line on = lineOf(line);
        needWithin(acts, 0, on.told);
        return shadeIn(tellBack(on, point, on.told - acts));
    }

    public long length(int line, int colour) throws IndexOutOfBoundsException, IllegalArgumentException {
        needLine(line);
        needColour(colour);
        return lineOf(line).now.pointsOf(colour);
    }

    public int ranges(int line, int colour) throws IndexOutOfBoundsException, IllegalArgumentException {
        needLine(line);
        needWithin(colour, -1, LAST_COLOUR);
        Picture now = lineOf(line).now;
        int sum = 0;
        for (int i = 0; i < now.size; i++) {
            if (colour == -1 || now.shadeAt(i) == colour) {
                sum++;
            }
        }
        return sum;
    }

    public long range(int line, int number, int what) throws IndexOutOfBoundsException, IllegalArgumentException {
        needLine(line);
        Picture now = lineOf(line).now;
        needPlace(number, now.size);
        needWithin(what, 0, 3);
        return now.detailAt(number, what);
    }

    public String text(int line) throws IndexOutOfBoundsException {
        needLine(line);
        writeRanges(lineOf(line).now);
        return sheet.toString();
    }

    public long next(int line, int point, int colour) throws IndexOutOfBoundsException, IllegalArgumentException {
        needLine(line);
        needColour(colour);
        return lineOf(line).now.firstFrom(point, colour);
    }

    public long before(int line, int point, int colour) throws IndexOutOfBoundsException, IllegalArgumentException {
        needLine(line);
        needColour(colour);
        return lineOf(line).now.lastUpTo(point, colour);
    }

    public long nearest(int line, int point, int colour) throws IndexOutOfBoundsException, IllegalArgumentException {
        needLine(line);
        needColour(colour);
        Picture now = lineOf(line).now;
        long below = now.lastUpTo(point, colour);
        long above = now.firstFrom(point, colour);
        if (below == NOWHERE || above == NOWHERE) {
            return below == NOWHERE ? above : below;
        }
        return point - below <= above - point ? below : above;
    }

    public long count(int line, int from, int to, int colour)
            throws IndexOutOfBoundsException, IllegalArgumentException {
        needLine(line);
        needOrder(from, to);
        needColour(colour);
        return lineOf(line).now.pointsIn(from, to, colour);
    }

    public boolean covers(int line, int from, int to, int colour)
            throws IndexOutOfBoundsException, IllegalArgumentException {
        needLine(line);
        needOrder(from, to);
        needColour(colour);
        Picture now = lineOf(line).now;
        return now.shadeOf(from) == colour && now.placeOf(from) == now.placeOf(to);
    }

    public int pieces(int line, int from, int to) throws IndexOutOfBoundsException, IllegalArgumentException {
        needLine(line);
        needOrder(from, to);
        Picture now = lineOf(line).now;
        return now.placeOf(to) - now.placeOf(from) + 1;
    }

    public int window(int line, int from, int to) throws IndexOutOfBoundsException {
        needLine(line);
        return from > to ? REFUSED : lineOf(line).now.beginsIn(from, to, true);
    }

    public long edge(int line, int from, int to, int side)
            throws IndexOutOfBoundsException, IllegalArgumentException {
        needLine(line);
        needOrder(from, to);
        needWithin(side, 0, 1);
        Picture now = lineOf(line).now;
        return side == 0 ? now.firstBeginIn(from, to) : now.lastBeginIn(from, to);
    }

    public long framed(int line, int what) throws IndexOutOfBoundsException, IllegalArgumentException {
        needLine(line);
        needWithin(what, 0, 5);
        Line on = lineOf(line);
        switch (what) {
            case 0:
                return on.now.beginsIn(on.frameFrom, on.frameTo, true);
            case 1:
                return on.now.firstBeginIn(on.frameFrom, on.frameTo);
            case 2:
                return on.now.lastBeginIn(on.frameFrom, on.frameTo);
            case 3:
                return on.frameFrom;
            case 4:
                return on.frameTo;
            default:
                return on.now.beginsIn(on.frameFrom, on.frameTo, false);
        }
    }

    public int inner(int line, int from, int to) throws IndexOutOfBoundsException {
        needLine(line);
        Line on = lineOf(line);
        if (from > to || from < on.frameFrom || to > on.frameTo) {
            return REFUSED;
        }
        return on.now.beginsIn(from, to, true);
    }

    public long longest(int line, int rank, int what) throws IndexOutOfBoundsException, IllegalArgumentException {
        needLine(line);
        needWithin(rank, 0, GREATEST);
        needWithin(what, 0, 3);
        Picture now = lineOf(line).now;
        int place = now.placeOfRank(rank);
        return place < 0 ? NOWHERE : now.detailAt(place, what);
    }

    public long gap(int line, int length) throws IndexOutOfBoundsException, IllegalArgumentException {
        needLine(line);
        needWithin(length, 1, GREATEST);
        return lineOf(line).now.firstGap(length);
    }

    public boolean same(int line, int other) throws IndexOutOfBoundsException {
        needLine(line);
        needLine(other);
        return lineOf(line).now.hasSameRanges(lineOf(other).now);
    }

    public long differ(int line, int other) throws IndexOutOfBoundsException {
        needLine(line);
        needLine(other);
        return lineOf(line).now.unlike(lineOf(other).now);
    }

    public long meeting(int line, int other) throws IndexOutOfBoundsException {
        needLine(line);
        needLine(other);
        return lineOf(line).now.alike(lineOf(other).now, false);
    }

    public long everywhere(int colour) throws IllegalArgumentException {
        needColour(colour);
        return line0.now.pointsOf(colour) + line1.now.pointsOf(colour) + line2.now.pointsOf(colour);
    }

    public int acts(int line, int what) throws IndexOutOfBoundsException, IllegalArgumentException {
        needLine(line);
        needWithin(what, 0, 3);
        Line on = lineOf(line);
        switch (what) {
            case 0:
                return on.told;
            case 1:
                return on.taken;
            case 2:
                return on.allWeights();
            default:
                return on.greatest;
        }
    }

    public int act(int line, int place, int what) throws IndexOutOfBoundsException, IllegalArgumentException {
        needLine(line);
        Line on = lineOf(line);
        needPlace(place, on.told);
        needWithin(what, 0, 5);
        return on.actAt(place).detail(what);
    }

    public int tried(int what) throws IllegalArgumentException {
        needWithin(what, 0, 1);
        return what == 0 ? knocks : blots;
    }

    // ---- what would be

    public int wouldBe(int line, int from, int to, int colour)
            throws IndexOutOfBoundsException, IllegalArgumentException {
        needLine(line);
        needOrder(from, to);
        needColour(colour);
        trial.setPainted(lineOf(line).now, from, to, colour);
        return trial.size;
    }

    public long wouldFall(int line, int by) throws IndexOutOfBoundsException {
        needLine(line);
        return lineOf(line).now.falling(by);
    }

    public long without(int line, int number, int what) throws IndexOutOfBoundsException, IllegalArgumentException {
        needLine(line);
        Line on = lineOf(line);
        int place = on.placeOfNumber(number);
        needFound(place);
        needWithin(what, 0, 2);
        doAllAnew(on, trial, place);
        switch (what) {
            case 0:
                return trial.size;
            case 1:
                return on.now.unlike(trial);
            default:
                return ALL_POINTS - trial.pointsOf(NONE);
        }
    }

    public boolean eitherOrder(int line, int from, int to, int second, int last)
            throws IndexOutOfBoundsException, IllegalArgumentException {
        needLine(line);
        needOrder(from, to);
        needOrder(second, last);
        // A point of both has the colour of the later paint; any other point is the same in either order.
        return to < second || last < from;
    }

    public boolean isSound() {
        return isLineSound(line0) && isLineSound(line1) && isLineSound(line2)
                && isPairSound(0, 1) && isPairSound(0, 2) && isPairSound(1, 2);
    }

    public long digest() {
        long sum = 4807;
        for (int line = 0; line <= 2; line++) {
            sum = addRanges(sum, line);
            sum = addActs(sum, line);
            sum = addRest(sum, line);
        }
        sum = addPair(sum, 0, 1);
        sum = addPair(sum, 0, 2);
        sum = addPair(sum, 1, 2);
        sum = sum * 31 + tried(0);
        sum = sum * 31 + tried(1);
        return sum * 31 + (isSound() ? 1 : 0);
    }

    // ---- what is refused

    private static void needLine(int line) {
        if (line < 0 || line > 2) {
            throw new IndexOutOfBoundsException("no such line");
        }
    }

    private static void needPlace(int place, int size) {
        if (place < 0 || place >= size) {
            throw new IndexOutOfBoundsException("no such place");
        }
    }

    private static void needOrder(int from, int to) {
        if (from > to) {
            throw new IllegalArgumentException("the first point is above the last");
        }
    }

    private static void needWithin(int value, int least, int most) {
        if (value < least || value > most) {
            throw new IllegalArgumentException("a value is not one of those allowed");
        }
    }

    private static void needColour(int shade) {
        needWithin(shade, NONE, LAST_COLOUR);
    }

    private static void needUnlike(int line, int other) {
        if (line == other) {
            throw new IllegalArgumentException("the other line is the same");
        }
    }

    private static void needFound(int place) {
        if (place < 0) {
            throw new IllegalArgumentException("no act of the row has that number");
        }
    }

    private static void needSome(int acts) {
        if (acts <= 0) {
            throw new IllegalStateException("there is no act");
        }
    }

    private static void needRoom(Line on, int weight) {
        if (on.isFull(weight)) {
            throw new IllegalStateException("the line is full");
        }
    }

    // ---- acts

    private Line lineOf(int line) {
        if (line == 0) {
            return line0;
        }
        return line == 1 ? line1 : line2;
    }

    private int weightOf(int kind, int first) {
        switch (kind) {
            case PAINT:
                return 2;
            case SHIFT:
                return 1;
            case LAY:
            case MEET:
                return lineOf(first).now.size - 1;
            default:
                return 0;
        }
    }

    /** Tells a new act, and does it; returns its number. */
    private int tell(Line on, int kind, int first, int second, int third) {
        int weight = weightOf(kind, first);
        needRoom(on, weight);
        Act act = on.actAt(on.told);
        on.greatest++;
        act.number = on.greatest;
        act.kind = kind;
        act.weight = weight;
        act.first = first;
        act.second = second;
        act.third = third;
        if (kind == LAY || kind == MEET) {
            act.picture.setCopy(lineOf(first).now);
        }
        on.told++;
        on.taken = 0;
        doAct(act, on.now);
        return act.number;
    }

    private void doAct(Act act, Picture on) {
        switch (act.kind) {
            case PAINT:
                bench.setPainted(on, act.first, act.second, act.third);
                break;
            case SHIFT:
                bench.setShifted(on, act.first);
                break;
            case MIRROR:
                bench.setMirrored(on);
                break;
            case DYE:
                bench.setDyed(on, act.first, act.second);
                break;
            default:
                bench.setJoined(on, act.picture, act.kind == MEET);
                break;
        }
        on.setCopy(bench);
    }

    /** Does the acts of the row in their order, but for the one at the place that is left out. */
    private void doAllAnew(Line of, Picture on, int leftOut) {
        on.blank();
        for (int i = 0; i < of.told; i++) {
            if (i != leftOut) {
                doAct(of.actAt(i), on);
            }
        }
    }

    // ---- telling back

    /** Colour and giver of a point by the first acts of the row; giverIn and shadeIn take them apart. */
    private static int tellBack(Line on, int point, int count) {
        if (count <= 0 || count > MOST_ACTS) {
            return NONE;
        }
        Act act = on.actAt(count - 1);
        switch (act.kind) {
            case PAINT:
                boolean within = point >= act.first && point <= act.second;
                return within ? act.giving(act.third) : tellBack(on, point, count - 1);
            case SHIFT:
                long source = (long) point - act.first;
                boolean isPoint = source >= LEAST && source <= GREATEST;
                return isPoint ? tellBack(on, (int) source, count - 1) : act.giving(NONE);
            case MIRROR:
                return tellBack(on, -1 - point, count - 1);
            case LAY:
                int laid = act.picture.shadeOf(point);
                return laid != NONE ? act.giving(laid) : tellBack(on, point, count - 1);
            case DYE:
                int undyed = tellBack(on, point, count - 1);
                return shadeIn(undyed) == act.first ? act.giving(act.second) : undyed;
            default:
                int unmet = tellBack(on, point, count - 1);
                return shadeIn(unmet) == act.picture.shadeOf(point) ? unmet : act.giving(NONE);
        }
    }

    private static int giverIn(int told) {
        return told >> 3;
    }

    private static int shadeIn(int told) {
        return told & 7;
    }

    // ---- text, soundness, checksum

    private void writeRanges(Picture picture) {
        sheet.setLength(0);
        for (int i = 0; i < picture.size; i++) {
            if (i > 0) {
                sheet.append(' ');
            }
            sheet.append(picture.beginAt(i));
            sheet.append('=');
            // One sign, put as such: an int that is put may make a text of its own each time.
            sheet.append((char) ('0' + picture.shadeAt(i)));
        }
    }

    private boolean isLineSound(Line on) {
        doAllAnew(on, trial, -1);
        return trial.hasSameRanges(on.now)
                && on.now.neighboursDiffer()
                && on.now.size <= 1 + on.allWeights()
                && allLengths(on.now) == ALL_POINTS
                && isToldBack(on)
                && isPaintedTwiceAsOnce(on);
    }

    private static long allLengths(Picture now) {
        long sum = 0;
        for (int shade = NONE; shade <= LAST_COLOUR; shade++) {
            sum += now.pointsOf(shade);
        }
        return sum;
    }

    private static boolean isToldBack(Line on) {
        for (int i = 0; i < on.now.size; i++) {
            int shade = on.now.shadeAt(i);
            int atBegin = shadeIn(tellBack(on, on.now.beginAt(i), on.told));
            int atEnd = shadeIn(tellBack(on, on.now.endAt(i), on.told));
            if (atBegin != shade || atEnd != shade) {
                return false;
            }
        }
        return true;
    }

    private boolean isPaintedTwiceAsOnce(Line on) {
        trial.setPainted(on.now, on.frameFrom, on.frameTo, 3);
        secondTrial.setPainted(trial, on.frameFrom, on.frameTo, 3);
        return secondTrial.hasSameRanges(trial);
    }

    private boolean isPairSound(int line, int other) {
        return same(line, other) == (differ(line, other) == 0);
    }

    private long addRanges(long start, int line) {
        int size = ranges(line, -1);
        long sum = start * 31 + size;
        for (int i = 0; i < size; i++) {
            sum = sum * 31 + range(line, i, 0);
            sum = sum * 31 + range(line, i, 2);
            sum = sum * 31 + range(line, i, 3);
        }
        for (int shade = NONE; shade <= LAST_COLOUR; shade++) {
            sum = sum * 31 + length(line, shade);
        }
        return sum;
    }

    private long addActs(long start, int line) {
        long sum = start;
        for (int what = 0; what <= 3; what++) {
            sum = sum * 31 + acts(line, what);
        }
        int told = acts(line, 0);
        for (int place = 0; place < told; place++) {
            for (int what = 0; what <= 5; what++) {
                sum = sum * 31 + act(line, place, what);
            }
        }
        return sum;
    }

    private long addRest(long start, int line) {
        long sum = start * 31 + giver(line, LEAST);
        sum = sum * 31 + giver(line, 0);
        sum = sum * 31 + giver(line, GREATEST);
        for (int what = 0; what <= 5; what++) {
            sum = sum * 31 + framed(line, what);
        }
        sum = sum * 31 + longest(line, 0, 0);
        sum = sum * 31 + longest(line, 0, 3);
        sum = sum * 31 + gap(line, 1);
        writeRanges(lineOf(line).now);
        return sum * 31 + sheet.length();
    }

    private long addPair(long start, int line, int other) {
        long sum = start * 31 + (same(line, other) ? 1 : 0);
        sum = sum * 31 + differ(line, other);
        return sum * 31 + meeting(line, other);
    }
}

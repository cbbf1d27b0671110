import java.util.ArrayList;
import java.util.Comparator;
import java.util.List;
import java.util.TreeMap;
import java.util.TreeSet;
import java.util.function.LongUnaryOperator;

/**
 * The document again, as plain as can be, to compare with: a line is a map from BEGINS to COLOURS, and
 * an act asks, at each point where the colour may change, what the document says of that point.
 */
final class Model {
    static final long LEAST = Integer.MIN_VALUE;
    static final long GREATEST = Integer.MAX_VALUE;
    static final long NOWHERE = GREATEST + 1;

    record Range(long begin, long end, int colour) {
        long length() {
            return end - begin + 1;
        }
    }

    record Act(int number, int kind, int weight, int first, int second, int third, TreeMap<Long, Integer> picture) {
        int detail(int what) {
            return new int[] {number, kind, weight, first, second, third}[what];
        }
    }

    static final class Line {
        TreeMap<Long, Integer> now = blank();
        List<Act> row = new ArrayList<>();
        List<Act> taken = new ArrayList<>();
        int greatest = 0;
        long frameFrom = LEAST;
        long frameTo = GREATEST;

        int weights() {
            return row.stream().mapToInt(Act::weight).sum();
        }
    }

    final Line[] lines = {new Line(), new Line(), new Line()};
    int knocks = 0;
    int blots = 0;

    static TreeMap<Long, Integer> blank() {
        TreeMap<Long, Integer> map = new TreeMap<>();
        map.put(LEAST, 0);
        return map;
    }

    static int colourIn(TreeMap<Long, Integer> map, long point) {
        return map.floorEntry(point).getValue();
    }

    static boolean isPoint(long p) {
        return p >= LEAST && p <= GREATEST;
    }

    /** The colour that a point has after an act, by section 2. */
    static int colourAfter(TreeMap<Long, Integer> was, Act act, long p) {
        switch (act.kind()) {
            case 1:
                return p >= act.first() && p <= act.second() ? act.third() : colourIn(was, p);
            case 2:
                return isPoint(p - act.first()) ? colourIn(was, p - act.first()) : 0;
            case 3:
                return colourIn(was, -1 - p);
            case 4:
                return colourIn(was, p) == act.first() ? act.second() : colourIn(was, p);
            case 5:
                return colourIn(act.picture(), p) != 0 ? colourIn(act.picture(), p) : colourIn(was, p);
            default:
                return colourIn(act.picture(), p) == colourIn(was, p) ? colourIn(was, p) : 0;
        }
    }

    /** All points at which a colour may begin after an act; more of them than need be. */
    static TreeSet<Long> turns(TreeMap<Long, Integer> was, Act act) {
        TreeSet<Long> points = new TreeSet<>(was.keySet());
        for (long begin : was.keySet()) {
            points.add(begin + act.first());
            points.add(-begin);
        }
        points.add((long) act.first());
        points.add(act.second() + 1L);
        points.add(GREATEST + 1 + act.first());
        if (act.picture() != null) {
            points.addAll(act.picture().keySet());
        }
        points.removeIf(p -> !isPoint(p));
        points.add(LEAST);
        return points;
    }

    static TreeMap<Long, Integer> done(TreeMap<Long, Integer> was, Act act) {
        TreeMap<Long, Integer> map = new TreeMap<>();
        for (long p : turns(was, act)) {
            int colour = colourAfter(was, act, p);
            if (map.isEmpty() || map.lastEntry().getValue() != colour) {
                map.put(p, colour);
            }
        }
        return map;
    }

    static TreeMap<Long, Integer> allDone(List<Act> row) {
        TreeMap<Long, Integer> map = blank();
        for (Act act : row) {
            map = done(map, act);
        }
        return map;
    }

    static List<Range> rangesIn(TreeMap<Long, Integer> map) {
        List<Range> list = new ArrayList<>();
        for (long begin : map.keySet()) {
            Long higher = map.higherKey(begin);
            list.add(new Range(begin, higher == null ? GREATEST : higher - 1, map.get(begin)));
        }
        return list;
    }

    List<Range> ranges(int line) {
        return rangesIn(lines[line].now);
    }

    static long differ(TreeMap<Long, Integer> one, TreeMap<Long, Integer> other, boolean asksMeeting) {
        TreeSet<Long> points = new TreeSet<>(one.keySet());
        points.addAll(other.keySet());
        long sum = 0;
        for (long p : points) {
            Long higher = points.higher(p);
            long length = (higher == null ? GREATEST + 1 : higher) - p;
            int a = colourIn(one, p);
            int b = colourIn(other, p);
            sum += (asksMeeting ? a == b && a != 0 : a != b) ? length : 0;
        }
        return sum;
    }

    /** COLOUR and GIVER, by section 3. */
    static int[] toldBack(List<Act> row, long p, int n) {
        if (n == 0) {
            return new int[] {0, 0};
        }
        Act act = row.get(n - 1);
        int kind = act.kind();
        long source = kind == 2 ? p - act.first() : kind == 3 ? -1 - p : p;
        if (!isPoint(source)) {
            return new int[] {0, act.number()};
        }
        int[] below = toldBack(row, source, n - 1);
        if (kind == 1 && p >= act.first() && p <= act.second()) {
            return new int[] {act.third(), act.number()};
        }
        if (kind == 4 && below[0] == act.first()) {
            return new int[] {act.second(), act.number()};
        }
        if (kind == 5 && colourIn(act.picture(), p) != 0) {
            return new int[] {colourIn(act.picture(), p), act.number()};
        }
        if (kind == 6 && colourIn(act.picture(), p) != below[0]) {
            return new int[] {0, act.number()};
        }
        return below;
    }

    // ---- calls; each answers what is due as a text, with "throws." ahead of an exception's name

    static final String NO_INDEX = "throws.IndexOutOfBoundsException";
    static final String NO_VALUE = "throws.IllegalArgumentException";
    static final String NO_STATE = "throws.IllegalStateException";

    private int tell(int line, int kind, int weight, int first, int second, int third, TreeMap<Long, Integer> picture) {
        Line on = lines[line];
        on.greatest++;
        Act act = new Act(on.greatest, kind, weight, first, second, third, picture);
        on.row.add(act);
        on.taken.clear();
        on.now = done(on.now, act);
        return act.number();
    }

    private boolean isFull(int line, int weight) {
        return lines[line].row.size() == 16 || lines[line].weights() + weight > 40;
    }

    private static boolean noLine(int line) {
        return line < 0 || line > 2;
    }

    private static boolean out(int value, int least, int most) {
        return value < least || value > most;
    }

    String paint(int line, int from, int to, int colour, boolean cut) {
        if (noLine(line)) {
            return NO_INDEX;
        }
        if (from > to || (!cut && out(colour, 1, 7))) {
            return NO_VALUE;
        }
        return isFull(line, 2) ? NO_STATE : "" + tell(line, 1, 2, from, to, cut ? 0 : colour, null);
    }

    String fill(int line, int point, int colour) {
        if (noLine(line)) {
            return NO_INDEX;
        }
        if (out(colour, 0, 7)) {
            return NO_VALUE;
        }
        if (isFull(line, 2)) {
            return NO_STATE;
        }
        Range in = rangeOf(line, point);
        return "" + tell(line, 1, 2, (int) in.begin(), (int) in.end(), colour, null);
    }

    String allot(int line, int length, int colour) {
        if (noLine(line)) {
            return NO_INDEX;
        }
        if (length < 1 || out(colour, 1, 7)) {
            return NO_VALUE;
        }
        if (isFull(line, 2)) {
            return NO_STATE;
        }
        for (Range r : ranges(line)) {
            if (r.colour() == 0 && r.length() >= length) {
                tell(line, 1, 2, (int) r.begin(), (int) (r.begin() + length - 1), colour, null);
                return "" + r.begin();
            }
        }
        return "" + NOWHERE;
    }

    String peel(int line, int side) {
        if (noLine(line)) {
            return NO_INDEX;
        }
        if (out(side, 0, 1)) {
            return NO_VALUE;
        }
        if (isFull(line, 2)) {
            return NO_STATE;
        }
        List<Range> painted = painted(line);
        if (painted.isEmpty()) {
            return "0";
        }
        Range r = painted.get(side == 0 ? 0 : painted.size() - 1);
        tell(line, 1, 2, (int) r.begin(), (int) r.end(), 0, null);
        return "" + r.colour();
    }

    private List<Range> painted(int line) {
        return new ArrayList<>(ranges(line).stream().filter(r -> r.colour() != 0).toList());
    }

    private Range rangeOf(int line, long point) {
        return ranges(line).stream().filter(r -> r.begin() <= point && point <= r.end()).findFirst().orElseThrow();
    }

    private static long overlap(Range r, long from, long to) {
        return Math.max(0, Math.min(to, r.end()) - Math.max(from, r.begin()) + 1);
    }

    private long falls(int line, int by) {
        long sum = 0;
        for (Range r : painted(line)) {
            long moved = overlap(new Range(r.begin() + by, r.end() + by, 1), LEAST, GREATEST);
            sum += r.length() - moved;
        }
        return sum;
    }

    String shift(int line, int by) {
        if (noLine(line)) {
            return NO_INDEX;
        }
        if (isFull(line, 1)) {
            return NO_STATE;
        }
        long falls = falls(line, by);
        tell(line, 2, 1, by, 0, 0, null);
        return "" + falls;
    }

    String mirror(int line) {
        if (noLine(line)) {
            return NO_INDEX;
        }
        return isFull(line, 0) ? NO_STATE : "" + tell(line, 3, 0, 0, 0, 0, null);
    }

    String dye(int line, int colour, int other) {
        if (noLine(line)) {
            return NO_INDEX;
        }
        if (out(colour, 0, 7) || out(other, 0, 7)) {
            return NO_VALUE;
        }
        if (isFull(line, 0)) {
            return NO_STATE;
        }
        TreeMap<Long, Integer> was = lines[line].now;
        tell(line, 4, 0, colour, other, 0, null);
        return "" + differ(was, lines[line].now, false);
    }

    String join(int line, int other, int kind) {
        if (noLine(line) || noLine(other)) {
            return NO_INDEX;
        }
        if (line == other) {
            return NO_VALUE;
        }
        int weight = lines[other].now.size() - 1;
        return isFull(line, weight) ? NO_STATE
                : "" + tell(line, kind, weight, other, 0, 0, new TreeMap<>(lines[other].now));
    }

    String undo(int line) {
        if (noLine(line)) {
            return NO_INDEX;
        }
        Line on = lines[line];
        if (on.row.isEmpty()) {
            return NO_STATE;
        }
        Act act = on.row.remove(on.row.size() - 1);
        on.taken.add(act);
        on.now = allDone(on.row);
        return "" + act.number();
    }

    String again(int line) {
        if (noLine(line)) {
            return NO_INDEX;
        }
        Line on = lines[line];
        if (on.taken.isEmpty()) {
            return NO_STATE;
        }
        Act act = on.taken.remove(on.taken.size() - 1);
        on.row.add(act);
        on.now = done(on.now, act);
        return "" + act.number();
    }

    private List<Act> rowWithout(int line, int number) {
        List<Act> rest = new ArrayList<>(lines[line].row);
        return rest.removeIf(a -> a.number() == number) ? rest : null;
    }

    String takeOut(int line, int number) {
        if (noLine(line)) {
            return NO_INDEX;
        }
        List<Act> rest = rowWithout(line, number);
        if (rest == null) {
            return NO_VALUE;
        }
        Line on = lines[line];
        TreeMap<Long, Integer> was = on.now;
        on.row = rest;
        on.taken.clear();
        on.now = allDone(rest);
        return "" + differ(was, on.now, false);
    }

    String wash(int line) {
        if (noLine(line)) {
            return NO_INDEX;
        }
        Line on = lines[line];
        int were = on.row.size();
        on.row.clear();
        on.taken.clear();
        on.now = blank();
        return "" + were;
    }

    private List<Range> beginsIn(int line, long from, long to) {
        return ranges(line).stream().filter(r -> r.begin() >= from && r.begin() <= to).toList();
    }

    String frame(int line, int from, int to) {
        if (noLine(line)) {
            return NO_INDEX;
        }
        if (from > to) {
            return NO_VALUE;
        }
        lines[line].frameFrom = from;
        lines[line].frameTo = to;
        return "" + beginsIn(line, from, to).size();
    }

    String blot(int line, int colour) {
        if (noLine(line)) {
            return NO_INDEX;
        }
        if (out(colour, 0, 7)) {
            return NO_VALUE;
        }
        blots++;
        return "-9";
    }

    String knock() {
        knocks++;
        return "" + knocks;
    }

    String atPoint(int line, int point, int what) {
        if (noLine(line)) {
            return NO_INDEX;
        }
        Range r = rangeOf(line, point);
        return "" + (what == 0 ? r.colour() : what == 1 ? r.begin() : r.end());
    }

    String giver(int line, int point) {
        return noLine(line) ? NO_INDEX : "" + toldBack(lines[line].row, point, lines[line].row.size())[1];
    }

    String under(int line, int point, int acts) {
        if (noLine(line)) {
            return NO_INDEX;
        }
        int size = lines[line].row.size();
        return out(acts, 0, size) ? NO_VALUE : "" + toldBack(lines[line].row, point, size - acts)[0];
    }

    String length(int line, int colour) {
        return count(line, (int) LEAST, (int) GREATEST, colour);
    }

    String countRanges(int line, int colour) {
        if (noLine(line)) {
            return NO_INDEX;
        }
        return out(colour, -1, 7) ? NO_VALUE
                : "" + ranges(line).stream().filter(r -> colour == -1 || r.colour() == colour).count();
    }

    private static long detail(Range r, int what) {
        return new long[] {r.begin(), r.end(), r.colour(), r.length()}[what];
    }

    String range(int line, int number, int what) {
        if (noLine(line) || out(number, 0, ranges(line).size() - 1)) {
            return NO_INDEX;
        }
        return out(what, 0, 3) ? NO_VALUE : "" + detail(ranges(line).get(number), what);
    }

    String text(int line) {
        if (noLine(line)) {
            return NO_INDEX;
        }
        return String.join(" ", ranges(line).stream().map(r -> r.begin() + "=" + r.colour()).toList());
    }

    /** What differs least of all points of a colour in from to to, or NOWHERE. */
    private String closest(int line, int point, int colour, long from, long to) {
        if (noLine(line)) {
            return NO_INDEX;
        }
        if (out(colour, 0, 7)) {
            return NO_VALUE;
        }
        long best = NOWHERE;
        LongUnaryOperator far = p -> Math.abs(p - point);
        for (Range r : ranges(line)) {
            if (r.colour() == colour && overlap(r, from, to) > 0) {
                long near = Math.min(Math.max(point, Math.max(from, r.begin())), Math.min(to, r.end()));
                boolean better = best == NOWHERE || far.applyAsLong(near) < far.applyAsLong(best);
                best = better ? near : best;
            }
        }
        return "" + best;
    }

    String next(int line, int point, int colour) {
        return closest(line, point, colour, point, GREATEST);
    }

    String before(int line, int point, int colour) {
        return closest(line, point, colour, LEAST, point);
    }

    String nearest(int line, int point, int colour) {
        return closest(line, point, colour, LEAST, GREATEST);
    }

    String count(int line, int from, int to, int colour) {
        if (noLine(line)) {
            return NO_INDEX;
        }
        if (from > to || out(colour, 0, 7)) {
            return NO_VALUE;
        }
        return "" + ranges(line).stream().filter(r -> r.colour() == colour).mapToLong(r -> overlap(r, from, to)).sum();
    }

    String covers(int line, int from, int to, int colour) {
        String counted = count(line, from, to, colour);
        return counted.startsWith("throws") ? counted : "" + counted.equals("" + ((long) to - from + 1));
    }

    String pieces(int line, int from, int to) {
        if (noLine(line)) {
            return NO_INDEX;
        }
        return from > to ? NO_VALUE : "" + ranges(line).stream().filter(r -> overlap(r, from, to) > 0).count();
    }

    String window(int line, int from, int to, boolean inner) {
        if (noLine(line)) {
            return NO_INDEX;
        }
        Line on = lines[line];
        boolean outside = from < on.frameFrom || from > on.frameTo || to < on.frameFrom || to > on.frameTo;
        return from > to || (inner && outside) ? "-9" : "" + beginsIn(line, from, to).size();
    }

    private static long outer(List<Range> list, boolean last) {
        return list.isEmpty() ? NOWHERE : list.get(last ? list.size() - 1 : 0).begin();
    }

    String edge(int line, int from, int to, int side) {
        if (noLine(line)) {
            return NO_INDEX;
        }
        return from > to || out(side, 0, 1) ? NO_VALUE : "" + outer(beginsIn(line, from, to), side == 1);
    }

    String framed(int line, int what) {
        if (noLine(line)) {
            return NO_INDEX;
        }
        if (out(what, 0, 5)) {
            return NO_VALUE;
        }
        Line on = lines[line];
        List<Range> in = beginsIn(line, on.frameFrom, on.frameTo);
        long painted = in.stream().filter(r -> r.colour() != 0).count();
        long[] all = {in.size(), outer(in, false), outer(in, true), on.frameFrom, on.frameTo, painted};
        return "" + all[what];
    }

    String longest(int line, int rank, int what) {
        if (noLine(line)) {
            return NO_INDEX;
        }
        if (rank < 0 || out(what, 0, 3)) {
            return NO_VALUE;
        }
        List<Range> list = painted(line);
        list.sort(Comparator.comparingLong((Range r) -> -r.length()).thenComparingLong(Range::begin));
        return "" + (rank >= list.size() ? NOWHERE : detail(list.get(rank), what));
    }

    String gap(int line, int length) {
        if (noLine(line)) {
            return NO_INDEX;
        }
        if (length < 1) {
            return NO_VALUE;
        }
        return "" + outer(ranges(line).stream().filter(r -> r.colour() == 0 && r.length() >= length).toList(), false);
    }

    String between(int line, int other, int what) {
        if (noLine(line) || noLine(other)) {
            return NO_INDEX;
        }
        TreeMap<Long, Integer> one = lines[line].now;
        TreeMap<Long, Integer> two = lines[other].now;
        return what == 0 ? "" + one.equals(two) : "" + differ(one, two, what == 2);
    }

    String everywhere(int colour) {
        if (out(colour, 0, 7)) {
            return NO_VALUE;
        }
        long sum = 0;
        for (int line = 0; line <= 2; line++) {
            sum += Long.parseLong(length(line, colour));
        }
        return "" + sum;
    }

    String acts(int line, int what) {
        if (noLine(line)) {
            return NO_INDEX;
        }
        Line on = lines[line];
        return out(what, 0, 3) ? NO_VALUE
                : "" + new int[] {on.row.size(), on.taken.size(), on.weights(), on.greatest}[what];
    }

    String act(int line, int place, int what) {
        if (noLine(line) || out(place, 0, lines[line].row.size() - 1)) {
            return NO_INDEX;
        }
        return out(what, 0, 5) ? NO_VALUE : "" + lines[line].row.get(place).detail(what);
    }

    String tried(int what) {
        return out(what, 0, 1) ? NO_VALUE : "" + (what == 0 ? knocks : blots);
    }

    private TreeMap<Long, Integer> paintedBy(TreeMap<Long, Integer> was, int from, int to, int colour) {
        return done(was, new Act(0, 1, 2, from, to, colour, null));
    }

    String wouldBe(int line, int from, int to, int colour) {
        if (noLine(line)) {
            return NO_INDEX;
        }
        return from > to || out(colour, 0, 7) ? NO_VALUE
                : "" + paintedBy(lines[line].now, from, to, colour).size();
    }

    String wouldFall(int line, int by) {
        return noLine(line) ? NO_INDEX : "" + falls(line, by);
    }

    String without(int line, int number, int what) {
        if (noLine(line)) {
            return NO_INDEX;
        }
        List<Act> rest = rowWithout(line, number);
        if (rest == null || out(what, 0, 2)) {
            return NO_VALUE;
        }
        TreeMap<Long, Integer> map = allDone(rest);
        long[] all = {map.size(), differ(map, lines[line].now, false), differ(map, blank(), false)};
        return "" + all[what];
    }

    String eitherOrder(int line, int from, int to, int second, int last) {
        if (noLine(line)) {
            return NO_INDEX;
        }
        if (from > to || second > last) {
            return NO_VALUE;
        }
        TreeMap<Long, Integer> now = lines[line].now;
        TreeMap<Long, Integer> one = paintedBy(paintedBy(now, from, to, 1), second, last, 2);
        TreeMap<Long, Integer> other = paintedBy(paintedBy(now, second, last, 2), from, to, 1);
        return "" + one.equals(other);
    }

    String isSound() {
        for (int line = 0; line <= 2; line++) {
            Line on = lines[line];
            for (Range r : ranges(line)) {
                int begin = toldBack(on.row, r.begin(), on.row.size())[0];
                int end = toldBack(on.row, r.end(), on.row.size())[0];
                if (begin != r.colour() || end != r.colour()) {
                    return "false";
                }
            }
            if (!allDone(on.row).equals(on.now) || on.now.size() > 1 + on.weights()) {
                return "false";
            }
        }
        return "true";
    }

    private long sum;

    private void add(String value) {
        sum = sum * 31 + (value.equals("true") ? 1 : value.equals("false") ? 0 : Long.parseLong(value));
    }

    String digest() {
        sum = 4807;
        for (int line = 0; line <= 2; line++) {
            add(countRanges(line, -1));
            for (int i = 0; i < ranges(line).size(); i++) {
                add(range(line, i, 0));
                add(range(line, i, 2));
                add(range(line, i, 3));
            }
            for (int colour = 0; colour <= 7; colour++) {
                add(length(line, colour));
            }
            for (int what = 0; what <= 3; what++) {
                add(acts(line, what));
            }
            for (int place = 0; place < lines[line].row.size(); place++) {
                for (int what = 0; what <= 5; what++) {
                    add(act(line, place, what));
                }
            }
            add(giver(line, (int) LEAST));
            add(giver(line, 0));
            add(giver(line, (int) GREATEST));
            for (int what = 0; what <= 5; what++) {
                add(framed(line, what));
            }
            add(longest(line, 0, 0));
            add(longest(line, 0, 3));
            add(gap(line, 1));
            add("" + text(line).length());
        }
        int[][] pairs = {{0, 1}, {0, 2}, {1, 2}};
        for (int[] pair : pairs) {
            for (int what = 0; what <= 2; what++) {
                add(between(pair[0], pair[1], what));
            }
        }
        add(tried(0));
        add(tried(1));
        add(isSound());
        return "" + sum;
    }
}

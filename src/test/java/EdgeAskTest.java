/** Section 3 and promises 19 to 52 of the document: a test for each sentence that names a boundary. */
final class EdgeAskTest {
    private static final int LEAST = Integer.MIN_VALUE;
    private static final int GREATEST = Integer.MAX_VALUE;
    private static final long NOWHERE = 2147483648L;
    private static final long ALL = 4294967296L;
    private static final int REFUSED = -9;

    private static final Check CHECK = new Check();

    public static void main(String[] args) {
        givers();
        giversOfJoins();
        giversBehindGivers();
        under();
        points();
        lengths();
        rangeByRange();
        texts();
        nextAndBefore();
        nearest();
        counts();
        covers();
        pieces();
        windows();
        edges();
        framed();
        inner();
        longest();
        gaps();
        betweenLines();
        everywhere();
        acts();
        actByAct();
        tried();
        wouldBe();
        wouldFall();
        without();
        eitherOrder();
        sound();
        digests();
        CHECK.end();
    }

    private static void about(String words) {
        CHECK.about(words);
    }

    private static void due(String call, long got, long want) {
        CHECK.due(call, got, want);
    }

    /** "-2147483648=0 0=1 5=2 7=0 9=2 15=0" on the line 0, by the ACTS 1 to 3. */
    private static Paintedline painted() {
        Paintedline x = new Paintedline();
        x.paint(0, 0, 9, 1);
        x.paint(0, 5, 14, 2);
        x.cut(0, 7, 8);
        return x;
    }

    /** All POINTS of the line 0 have one COLOUR. */
    private static Paintedline allOf(int colour) {
        Paintedline x = new Paintedline();
        x.paint(0, LEAST, GREATEST, colour);
        return x;
    }

    /** LEAST is 1, GREATEST is 2, all between is NONE. */
    private static Paintedline bothEnds() {
        Paintedline x = new Paintedline();
        x.paint(0, LEAST, LEAST, 1);
        x.paint(0, GREATEST, GREATEST, 2);
        return x;
    }

    /** 41 RANGES, 40 of WEIGHT. */
    private static Paintedline mostRanges() {
        Paintedline x = new Paintedline();
        for (int i = 0; i < 10; i++) {
            x.paint(0, 4 * i, 4 * i, 1);
            x.paint(1, 4 * i + 2, 4 * i + 2, 2);
        }
        x.lay(0, 1);
        return x;
    }

    private static void giverIs(Paintedline x, int point, int want) {
        due("giver of " + point, x.giver(0, point), want);
    }

    // ---- section 3; promises 22 and 23

    private static void givers() {
        about("3: with n = 0: NONE, and the GIVER 0");
        Paintedline x = new Paintedline();
        giverIs(x, LEAST, 0);
        giverIs(x, 0, 0);
        giverIs(x, GREATEST, 0);
        due("under 0 of 0", x.under(0, 0, 0), 0);

        about("3: PAINT, if p is within");
        x.paint(0, 0, 9, 1);
        giverIs(x, -1, 0);
        giverIs(x, 0, 1);
        giverIs(x, 9, 1);
        giverIs(x, 10, 0);
        x.paint(0, 9, 9, 1);
        giverIs(x, 8, 1);
        giverIs(x, 9, 2);
        x.cut(0, 20, 29);
        giverIs(x, 20, 3);
        giverIs(x, 29, 3);
        giverIs(x, 30, 0);
        x.cut(0, LEAST, LEAST);
        giverIs(x, LEAST, 4);
        x.paint(0, GREATEST, GREATEST, 3);
        giverIs(x, GREATEST, 5);
        giverIs(x, GREATEST - 1, 0);

        about("3: SHIFT, if p - s is no POINT");
        x.shift(0, 2);
        giverIs(x, LEAST, 6);
        giverIs(x, LEAST + 1, 6);
        giverIs(x, LEAST + 2, 4);
        giverIs(x, 2, 1);
        giverIs(x, 11, 2);
        giverIs(x, GREATEST, 0);
        x.shift(0, -1);
        giverIs(x, GREATEST, 7);
        giverIs(x, GREATEST - 1, 0);
        giverIs(x, LEAST, 6);
        giverIs(x, LEAST + 1, 4);
        giverIs(x, 1, 1);

        about("3: MIRROR gives nothing");
        x.mirror(0);
        giverIs(x, GREATEST, 6);
        giverIs(x, LEAST, 7);
        giverIs(x, -2, 1);
        giverIs(x, -1, 0);
        giverIs(x, -11, 2);
    }

    private static void giversOfJoins() {
        about("3: SHIFT by 0, by LEAST and by GREATEST");
        Paintedline x = allOf(1);
        x.shift(0, 0);
        giverIs(x, LEAST, 1);
        giverIs(x, GREATEST, 1);
        x.shift(0, LEAST);
        giverIs(x, LEAST, 1);
        giverIs(x, -1, 1);
        giverIs(x, 0, 3);
        giverIs(x, GREATEST, 3);
        x.undo(0);
        x.shift(0, GREATEST);
        giverIs(x, LEAST, 4);
        giverIs(x, -2, 4);
        giverIs(x, -1, 1);
        giverIs(x, GREATEST, 1);

        about("3: DYE, if TELLING BACK leads to the first COLOUR");
        Paintedline y = painted();
        y.dye(0, 2, 1);
        giverIs(y, 4, 1);
        giverIs(y, 5, 4);
        giverIs(y, 8, 3);
        giverIs(y, 14, 4);
        giverIs(y, 15, 0);
        about("3: DYE, both may be the same");
        y.dye(0, 1, 1);
        giverIs(y, 4, 5);
        giverIs(y, 5, 5);
        giverIs(y, 8, 3);
        about("3: DYE of NONE");
        y.dye(0, 0, 0);
        giverIs(y, 8, 6);
        giverIs(y, LEAST, 6);
        giverIs(y, 4, 5);
        y.dye(0, 7, 3);
        giverIs(y, 8, 6);

        about("3: LAY, if p is not NONE in its PICTURE");
        Paintedline z = painted();
        z.paint(1, 3, 5, 2);
        z.paint(1, 8, 8, 4);
        z.lay(0, 1);
        giverIs(z, 2, 1);
        giverIs(z, 3, 4);
        giverIs(z, 5, 4);
        giverIs(z, 6, 2);
        giverIs(z, 7, 3);
        giverIs(z, 8, 4);
        giverIs(z, 15, 0);

        about("3: MEET, if p has another COLOUR in its PICTURE");
        z.meet(0, 1);
        giverIs(z, -1, 0);
        giverIs(z, 2, 5);
        giverIs(z, 3, 4);
        giverIs(z, 6, 5);
        giverIs(z, 7, 3);
        giverIs(z, 8, 4);
        z.cut(0, 8, 8);
        z.meet(0, 1);
        giverIs(z, 8, 7);
        giverIs(z, 2, 5);
        due("colour", z.colour(0, 8), 0);
    }

    private static void giversBehindGivers() {
        about("22: by the ACTS of the row, as they stand now");
        Paintedline x = painted();
        x.undo(0);
        giverIs(x, 7, 2);
        x.again(0);
        giverIs(x, 7, 3);
        x.takeOut(0, 2);
        giverIs(x, 7, 3);
        giverIs(x, 6, 1);
        giverIs(x, 14, 0);
        x.takeOut(0, 1);
        giverIs(x, 6, 0);
        x.paint(0, 6, 6, 1);
        giverIs(x, 6, 4);
        x.wash(0);
        giverIs(x, 7, 0);

        about("22: through a row of 16");
        Paintedline y = new Paintedline();
        y.paint(0, 0, 0, 1);
        for (int i = 0; i < 15; i++) {
            y.shift(0, 1);
        }
        giverIs(y, 15, 1);
        giverIs(y, 0, 0);
        giverIs(y, LEAST, 16);
        giverIs(y, LEAST + 1, 15);
        giverIs(y, LEAST + 14, 2);
        giverIs(y, LEAST + 15, 0);
        due("under 15", y.under(0, 0, 15), 1);
        due("under 14", y.under(0, 1, 14), 1);
        due("under 16", y.under(0, 0, 16), 0);
    }

    private static void under() {
        about("23: by all but so many of the last ACTS");
        Paintedline x = painted();
        int[] want = {0, 2, 1, 0};
        for (int acts = 0; acts <= 3; acts++) {
            due("under " + acts, x.under(0, 7, acts), want[acts]);
        }
        about("23: of that POINT, wherever the ACTS brought it");
        x.shift(0, 100);
        due("under 0", x.under(0, 107, 0), 0);
        due("under 0", x.under(0, 104, 0), 1);
        due("under 1", x.under(0, 104, 1), 0);
        due("under 1", x.under(0, 4, 1), 1);
        x.mirror(0);
        due("under 1 of LEAST", x.under(0, LEAST, 1), 0);
        due("under 2 of 14", x.under(0, 14, 2), 2);
        about("23: acts is below 0 or more than there are in the row");
        CHECK.badValue(x, "under -1", () -> x.under(0, 7, -1));
        CHECK.badValue(x, "under LEAST", () -> x.under(0, 7, LEAST));
        due("under 5", x.under(0, 7, 5), 0);
        CHECK.badValue(x, "under 6", () -> x.under(0, 7, 6));
        CHECK.badValue(x, "under GREATEST", () -> x.under(0, 7, GREATEST));
        x.undo(0);
        CHECK.badValue(x, "under 5 with one of them in TAKEN", () -> x.under(0, 7, 5));
        CHECK.badValue(x, "under 1 of an empty row", () -> x.under(1, 7, 1));
        due("under 0 of an empty row", x.under(1, 7, 0), 0);
    }

    // ---- promises 19 to 21 and 24 to 27

    private static void points() {
        about("19 to 21: at BEGIN and END of each RANGE");
        Paintedline x = painted();
        int[] begins = {LEAST, 0, 5, 7, 9, 15};
        int[] ends = {-1, 4, 6, 8, 14, GREATEST};
        int[] colours = {0, 1, 2, 0, 2, 0};
        for (int i = 0; i < begins.length; i++) {
            for (int point : new int[] {begins[i], ends[i]}) {
                due("colour of " + point, x.colour(0, point), colours[i]);
                due("begin of " + point, x.begin(0, point), begins[i]);
                due("end of " + point, x.end(0, point), ends[i]);
            }
        }
        about("19 to 21: of a RANGE of one POINT");
        Paintedline y = bothEnds();
        due("begin of LEAST", y.begin(0, LEAST), LEAST);
        due("end of LEAST", y.end(0, LEAST), LEAST);
        due("colour of LEAST", y.colour(0, LEAST), 1);
        due("begin of LEAST + 1", y.begin(0, LEAST + 1), LEAST + 1);
        due("end of LEAST + 1", y.end(0, LEAST + 1), GREATEST - 1);
        due("begin of GREATEST", y.begin(0, GREATEST), GREATEST);
        due("end of GREATEST", y.end(0, GREATEST), GREATEST);
        due("colour of GREATEST", y.colour(0, GREATEST), 2);
        about("19 to 21: of the RANGE of all POINTS");
        for (int point : new int[] {LEAST, -1, 0, GREATEST}) {
            due("colour", y.colour(1, point), 0);
            due("begin", y.begin(1, point), LEAST);
            due("end", y.end(1, point), GREATEST);
        }
    }

    private static void lengths() {
        about("24: how many POINTS have it");
        Paintedline x = new Paintedline();
        due("length of NONE at first", x.length(0, 0), ALL);
        due("length of 1 at first", x.length(0, 1), 0);
        due("length of all POINTS", allOf(7).length(0, 7), ALL);
        due("length of NONE if all is painted", allOf(7).length(0, 0), 0);
        due("length of LEAST alone", bothEnds().length(0, 1), 1);
        due("length of all between", bothEnds().length(0, 0), ALL - 2);
        due("length of two RANGES", painted().length(0, 2), 8);

        about("25: a COLOUR, or -1");
        due("ranges", painted().ranges(0, -1), 6);
        due("ranges of NONE", painted().ranges(0, 0), 3);
        due("ranges of 2", painted().ranges(0, 2), 2);
        due("ranges of 7", painted().ranges(0, 7), 0);
        due("ranges at first", x.ranges(0, -1), 1);
        due("ranges of NONE at first", x.ranges(0, 0), 1);
        due("ranges of NONE if all is painted", allOf(7).ranges(0, 0), 0);
        due("ranges of a full line", mostRanges().ranges(0, -1), 41);
        due("ranges of NONE of a full line", mostRanges().ranges(0, 0), 21);
    }

    private static void rangeByRange() {
        about("26: BEGIN, END, COLOUR, LENGTH");
        Paintedline x = bothEnds();
        long[][] want = {{LEAST, LEAST, 1, 1}, {LEAST + 1, GREATEST - 1, 0, ALL - 2}, {GREATEST, GREATEST, 2, 1}};
        for (int number = 0; number < 3; number++) {
            for (int what = 0; what <= 3; what++) {
                due("range " + number + " " + what, x.range(0, number, what), want[number][what]);
            }
        }
        due("LENGTH of the only one", x.range(1, 0, 3), ALL);
        about("26: there is no such RANGE");
        CHECK.badLine(x, "range 3 of 3", () -> x.range(0, 3, 0));
        CHECK.badLine(x, "range -1", () -> x.range(0, -1, 0));
        CHECK.badLine(x, "range 1 of 1", () -> x.range(1, 1, 0));
        Paintedline y = mostRanges();
        due("BEGIN of the 41st", y.range(0, 40, 0), 39);
        due("END of the 41st", y.range(0, 40, 1), GREATEST);
        CHECK.badLine(y, "range 41 of 41", () -> y.range(0, 41, 0));
        about("26: the RANGE is named ahead of what");
        CHECK.badLine(x, "range 3, what 4", () -> x.range(0, 3, 4));
        CHECK.badValue(x, "range 2, what 4", () -> x.range(0, 2, 4));
        CHECK.badValue(x, "range 2, what -1", () -> x.range(0, 2, -1));
    }

    private static void texts() {
        about("27: RANGE by RANGE its BEGIN, \"=\" and its COLOUR");
        Paintedline x = new Paintedline();
        CHECK.due("text at first", x.text(0), "-2147483648=0");
        CHECK.due("text of LEAST and GREATEST", bothEnds().text(0), "-2147483648=1 -2147483647=0 2147483647=2");
        CHECK.due("text of all POINTS", allOf(7).text(0), "-2147483648=7");
        x.paint(0, -10, -1, 3);
        x.paint(0, 0, 0, 4);
        x.paint(0, 100, 1000, 5);
        CHECK.due("text below 0, of 0 and above", x.text(0), "-2147483648=0 -10=3 0=4 1=0 100=5 1001=0");
        CHECK.due("text once more", x.text(0), "-2147483648=0 -10=3 0=4 1=0 100=5 1001=0");
        CHECK.due("text of another line", x.text(1), "-2147483648=0");
        StringBuilder long41 = new StringBuilder("-2147483648=0");
        for (int i = 0; i < 10; i++) {
            long41.append(" ").append(4 * i).append("=1 ").append(4 * i + 1).append("=0 ");
            long41.append(4 * i + 2).append("=2 ").append(4 * i + 3).append("=0");
        }
        CHECK.due("text of a full line", mostRanges().text(0), long41.toString());
    }

    // ---- promises 28 to 33

    private static void nextAndBefore() {
        Paintedline x = painted();
        about("28: the smallest POINT that is not below the given one");
        due("the given one", x.next(0, 6, 2), 6);
        due("BEGIN of the RANGE", x.next(0, 5, 2), 5);
        due("one below BEGIN", x.next(0, 4, 2), 5);
        due("one above END", x.next(0, 7, 2), 9);
        due("of the COLOUR of LEAST", x.next(0, LEAST, 0), LEAST);
        due("of another COLOUR from LEAST", x.next(0, LEAST, 2), 5);
        due("of NONE in the last RANGE", x.next(0, 20, 0), 20);
        due("of GREATEST", x.next(0, GREATEST, 0), GREATEST);
        due("from END", x.next(0, 14, 2), 14);
        about("28: or NOWHERE");
        due("one above the last", x.next(0, 15, 2), NOWHERE);
        due("of a COLOUR below", x.next(0, 5, 1), NOWHERE);
        due("of no POINT", x.next(0, LEAST, 7), NOWHERE);
        due("from GREATEST", x.next(0, GREATEST, 2), NOWHERE);
        due("far", bothEnds().next(0, LEAST, 2), GREATEST);
        due("of NONE if all is painted", allOf(7).next(0, LEAST, 0), NOWHERE);

        about("29: the greatest POINT that is not above the given one");
        due("the given one", x.before(0, 10, 2), 10);
        due("END of the RANGE", x.before(0, 14, 2), 14);
        due("one above END", x.before(0, 15, 2), 14);
        due("one below BEGIN", x.before(0, 8, 2), 6);
        due("of the COLOUR of GREATEST", x.before(0, GREATEST, 0), GREATEST);
        due("of another COLOUR from GREATEST", x.before(0, GREATEST, 1), 4);
        due("of LEAST", x.before(0, LEAST, 0), LEAST);
        due("from BEGIN", x.before(0, 5, 2), 5);
        about("29: or NOWHERE");
        due("one below the first", x.before(0, 4, 2), NOWHERE);
        due("of a COLOUR above", x.before(0, -1, 1), NOWHERE);
        due("of no POINT", x.before(0, GREATEST, 7), NOWHERE);
        due("from LEAST", x.before(0, LEAST, 1), NOWHERE);
        due("far", bothEnds().before(0, GREATEST, 1), LEAST);
        due("of NONE if all is painted", allOf(7).before(0, GREATEST, 0), NOWHERE);
    }

    private static void nearest() {
        Paintedline x = painted();
        about("30: the POINT that differs least");
        due("the given one", x.nearest(0, 10, 2), 10);
        due("below", x.nearest(0, 7, 2), 6);
        due("above", x.nearest(0, 8, 2), 9);
        due("below alone", x.nearest(0, GREATEST, 2), 14);
        due("above alone", x.nearest(0, LEAST, 2), 5);
        about("30: of two the smaller");
        x.paint(0, 8, 8, 2);
        x.cut(0, 7, 7);
        due("one to both sides", x.nearest(0, 7, 2), 6);
        x.cut(0, 6, 8);
        due("two to both sides", x.nearest(0, 7, 2), 5);
        due("three and one", x.nearest(0, 8, 2), 9);
        about("30: or NOWHERE");
        due("of no POINT", x.nearest(0, 7, 6), NOWHERE);
        due("of NONE if all is painted", allOf(7).nearest(0, 7, 0), NOWHERE);
        about("30: they differ by more than an int tells");
        Paintedline y = bothEnds();
        y.dye(0, 2, 1);
        due("of -1", y.nearest(0, -1, 1), LEAST);
        due("of 0", y.nearest(0, 0, 1), GREATEST);
        due("of LEAST", y.nearest(0, LEAST, 1), LEAST);
        due("of GREATEST", y.nearest(0, GREATEST, 1), GREATEST);
        y.cut(0, GREATEST, GREATEST);
        due("all the way down", y.nearest(0, GREATEST, 1), LEAST);
        due("all the way up", bothEnds().nearest(0, LEAST, 2), GREATEST);
        y.paint(0, GREATEST - 1, GREATEST - 1, 1);
        due("as far to both sides", y.nearest(0, -1, 1), LEAST);
        due("one nearer", y.nearest(0, 0, 1), GREATEST - 1);
    }

    private static void counts() {
        Paintedline x = painted();
        about("31: how many POINTS from the first to the last");
        due("of a RANGE", x.count(0, 5, 6, 2), 2);
        due("of two RANGES and parts of others", x.count(0, 4, 15, 2), 8);
        due("of parts", x.count(0, 6, 9, 2), 2);
        due("within a RANGE", x.count(0, 10, 12, 2), 3);
        due("one POINT that has it", x.count(0, 9, 9, 2), 1);
        due("one POINT that has it not", x.count(0, 8, 8, 2), 0);
        due("none", x.count(0, 15, GREATEST, 2), 0);
        due("of NONE", x.count(0, LEAST, GREATEST, 0), ALL - 13);
        due("LEAST", x.count(0, LEAST, LEAST, 0), 1);
        due("GREATEST", x.count(0, GREATEST, GREATEST, 0), 1);
        due("all POINTS", x.count(1, LEAST, GREATEST, 0), ALL);
        due("all POINTS of another COLOUR", x.count(1, LEAST, GREATEST, 1), 0);
    }

    private static void covers() {
        Paintedline x = painted();
        about("32: whether all POINTS from the first to the last");
        CHECK.yes("a RANGE", x.covers(0, 9, 14, 2));
        CHECK.yes("one POINT", x.covers(0, 9, 9, 2));
        CHECK.yes("one POINT", x.covers(0, 14, 14, 2));
        CHECK.no("one below", x.covers(0, 8, 14, 2));
        CHECK.no("one above", x.covers(0, 9, 15, 2));
        CHECK.no("another COLOUR", x.covers(0, 9, 14, 0));
        CHECK.no("two RANGES of that COLOUR", x.covers(0, 5, 14, 2));
        CHECK.yes("to GREATEST", x.covers(0, 15, GREATEST, 0));
        CHECK.yes("from LEAST", x.covers(0, LEAST, -1, 0));
        CHECK.no("all POINTS", x.covers(0, LEAST, GREATEST, 0));
        CHECK.yes("all POINTS of one COLOUR", x.covers(1, LEAST, GREATEST, 0));
        CHECK.no("all POINTS of another COLOUR", x.covers(1, LEAST, GREATEST, 7));
    }

    private static void pieces() {
        Paintedline x = painted();
        about("33: how many RANGES have a POINT from the first to the last");
        due("one POINT", x.pieces(0, 6, 6), 1);
        due("one RANGE", x.pieces(0, 5, 6), 1);
        due("one above", x.pieces(0, 5, 7), 2);
        due("one below", x.pieces(0, 4, 6), 2);
        due("all RANGES", x.pieces(0, LEAST, GREATEST), 6);
        due("the last RANGE", x.pieces(0, 15, GREATEST), 1);
        due("the first RANGE", x.pieces(0, LEAST, -1), 1);
        due("all RANGES of a new line", x.pieces(1, LEAST, GREATEST), 1);
        due("GREATEST", bothEnds().pieces(0, GREATEST - 1, GREATEST), 2);
    }

    // ---- promises 34 to 37

    private static void windows() {
        Paintedline x = painted();
        about("34: how many BEGINS lie from the first to the last");
        due("from BEGIN to BEGIN", x.window(0, 5, 9), 3);
        due("one more on both sides", x.window(0, 6, 8), 1);
        due("one POINT that is BEGIN", x.window(0, 7, 7), 1);
        due("one POINT that is none", x.window(0, 8, 8), 0);
        due("all", x.window(0, LEAST, GREATEST), 6);
        due("LEAST", x.window(0, LEAST, LEAST), 1);
        due("all but LEAST", x.window(0, LEAST + 1, GREATEST), 5);
        due("GREATEST", bothEnds().window(0, GREATEST, GREATEST), 1);
        about("34: REFUSED if from is greater than to");
        due("by one", x.window(0, 8, 7), REFUSED);
        due("by all", x.window(0, GREATEST, LEAST), REFUSED);
        about("34: the FRAME does not matter");
        x.frame(0, 7, 7);
        due("all", x.window(0, LEAST, GREATEST), 6);
    }

    private static void edges() {
        Paintedline x = painted();
        about("35: the first or the last BEGIN");
        due("first, at from", x.edge(0, 5, 9, 0), 5);
        due("last, at to", x.edge(0, 5, 9, 1), 9);
        due("first, above from", x.edge(0, 6, 9, 0), 7);
        due("last, below to", x.edge(0, 5, 8, 1), 7);
        due("first of all", x.edge(0, LEAST, GREATEST, 0), LEAST);
        due("last of all", x.edge(0, LEAST, GREATEST, 1), 15);
        due("first of one", x.edge(0, 7, 7, 0), 7);
        due("last of one", x.edge(0, 7, 7, 1), 7);
        due("last of a new line", x.edge(1, LEAST, GREATEST, 1), LEAST);
        due("GREATEST", bothEnds().edge(0, 0, GREATEST, 0), GREATEST);
        about("35: or NOWHERE");
        due("first", x.edge(0, 10, 14, 0), NOWHERE);
        due("last", x.edge(0, 10, 14, 1), NOWHERE);
        due("first above all", x.edge(0, 16, GREATEST, 0), NOWHERE);
        due("last ahead of the second", x.edge(0, LEAST + 1, -1, 1), NOWHERE);
    }

    private static void framedIs(Paintedline x, long... want) {
        for (int what = 0; what <= 5; what++) {
            due("framed " + what, x.framed(0, what), want[what]);
        }
    }

    private static void framed() {
        Paintedline x = painted();
        about("36: the FRAME from LEAST to GREATEST at first");
        framedIs(x, 6, LEAST, 15, LEAST, GREATEST, 3);
        framedIs(new Paintedline(), 1, LEAST, LEAST, LEAST, GREATEST, 0);
        framedIs(allOf(3), 1, LEAST, LEAST, LEAST, GREATEST, 1);
        about("36: of BEGINS that lie in it");
        x.frame(0, 5, 9);
        framedIs(x, 3, 5, 9, 5, 9, 2);
        x.frame(0, 6, 8);
        framedIs(x, 1, 7, 7, 6, 8, 0);
        x.frame(0, 9, 9);
        framedIs(x, 1, 9, 9, 9, 9, 1);
        about("36: or NOWHERE");
        x.frame(0, 10, 14);
        framedIs(x, 0, NOWHERE, NOWHERE, 10, 14, 0);
        about("36: as they are now");
        x.shift(0, 1);
        framedIs(x, 1, 10, 10, 10, 14, 1);
        x.paint(0, 12, 12, 7);
        framedIs(x, 3, 10, 13, 10, 14, 3);
        x.wash(0);
        framedIs(x, 0, NOWHERE, NOWHERE, 10, 14, 0);
    }

    private static void inner() {
        Paintedline x = painted();
        about("37: how many BEGINS, in the first FRAME");
        due("all", x.inner(0, LEAST, GREATEST), 6);
        due("some", x.inner(0, 5, 9), 3);
        x.frame(0, 0, 15);
        about("37: within the FRAME");
        due("just the FRAME", x.inner(0, 0, 15), 5);
        due("one POINT", x.inner(0, 15, 15), 1);
        due("one POINT", x.inner(0, 0, 0), 1);
        due("none", x.inner(0, 10, 14), 0);
        about("37: REFUSED if one of both is not within the FRAME");
        due("from", x.inner(0, -1, 15), REFUSED);
        due("to", x.inner(0, 0, 16), REFUSED);
        due("both, around it", x.inner(0, -1, 16), REFUSED);
        due("both, below", x.inner(0, -2, -1), REFUSED);
        due("both, above", x.inner(0, 16, 17), REFUSED);
        due("all", x.inner(0, LEAST, GREATEST), REFUSED);
        about("37: REFUSED if from is greater than to");
        due("within the FRAME", x.inner(0, 9, 8), REFUSED);
        due("outside of it", x.inner(0, 16, -1), REFUSED);
        about("37: by the FRAME of that LINE");
        due("another LINE", x.inner(1, LEAST, GREATEST), 1);
    }

    // ---- promises 38 and 39

    private static void longest() {
        Paintedline x = new Paintedline();
        x.paint(0, 0, 1, 3);
        x.paint(0, 10, 14, 1);
        x.paint(0, 15, 19, 2);
        x.paint(0, 30, 31, 3);
        x.paint(0, 40, 40, 5);
        x.paint(0, 50, 51, 4);
        about("38: the longest first, those of one LENGTH by rising BEGIN");
        long[] begins = {10, 15, 0, 30, 50, 40};
        long[] ends = {14, 19, 1, 31, 51, 40};
        long[] colours = {1, 2, 3, 3, 4, 5};
        for (int rank = 0; rank < 6; rank++) {
            due("BEGIN of rank " + rank, x.longest(0, rank, 0), begins[rank]);
            due("END of rank " + rank, x.longest(0, rank, 1), ends[rank]);
            due("COLOUR of rank " + rank, x.longest(0, rank, 2), colours[rank]);
            due("LENGTH of rank " + rank, x.longest(0, rank, 3), ends[rank] - begins[rank] + 1);
        }
        about("38: NOWHERE if there is none of that rank");
        for (int what = 0; what <= 3; what++) {
            due("rank 6", x.longest(0, 6, what), NOWHERE);
            due("rank GREATEST", x.longest(0, GREATEST, what), NOWHERE);
            due("rank 0 of NONE", x.longest(1, 0, what), NOWHERE);
        }
        about("38: LENGTHS that are more than an int tells");
        due("all POINTS", allOf(7).longest(0, 0, 3), ALL);
        due("rank 1", allOf(7).longest(0, 1, 3), NOWHERE);
        Paintedline y = allOf(7);
        y.cut(0, 0, 0);
        due("the longer half", y.longest(0, 0, 0), LEAST);
        due("its LENGTH", y.longest(0, 0, 3), 2147483648L);
        due("the shorter half", y.longest(0, 1, 0), 1);
        due("its LENGTH", y.longest(0, 1, 3), 2147483647L);
        y.mirror(0);
        due("the longer half", y.longest(0, 0, 0), 0);
        due("the shorter half", y.longest(0, 1, 0), LEAST);
        about("38: of a full line");
        due("the last rank", mostRanges().longest(0, 19, 0), 38);
        due("one more", mostRanges().longest(0, 20, 0), NOWHERE);
    }

    private static void gaps() {
        about("39: BEGIN of the first RANGE of NONE with that LENGTH or more");
        Paintedline x = allOf(7);
        x.cut(0, 0, 1);
        x.cut(0, 10, 14);
        x.cut(0, 20, 24);
        due("1", x.gap(0, 1), 0);
        due("that LENGTH", x.gap(0, 2), 0);
        due("one more", x.gap(0, 3), 10);
        due("that LENGTH, the first of two", x.gap(0, 5), 10);
        about("39: or NOWHERE");
        due("one more than the longest", x.gap(0, 6), NOWHERE);
        due("GREATEST", x.gap(0, GREATEST), NOWHERE);
        due("1 if all is painted", allOf(7).gap(0, 1), NOWHERE);
        about("39: RANGES that are longer than an int tells");
        due("GREATEST on a new line", x.gap(1, GREATEST), LEAST);
        Paintedline y = new Paintedline();
        y.paint(0, -1, -1, 1);
        due("GREATEST below", y.gap(0, GREATEST), LEAST);
        y.paint(0, -2, -2, 1);
        due("GREATEST above", y.gap(0, GREATEST), 0);
        y.paint(0, 0, 0, 1);
        due("GREATEST above", y.gap(0, GREATEST), 1);
        y.paint(0, 1, 1, 1);
        due("GREATEST", y.gap(0, GREATEST), NOWHERE);
        due("one less", y.gap(0, GREATEST - 1), LEAST);
    }

    // ---- promises 40 to 46

    private static void betweenLines() {
        Paintedline x = painted();
        about("40 to 42: a LINE (it may be the same)");
        CHECK.yes("same", x.same(0, 0));
        due("differ", x.differ(0, 0), 0);
        due("meeting", x.meeting(0, 0), 13);
        due("meeting of NONE", x.meeting(1, 1), 0);
        about("40 to 42: two LINES of NONE");
        CHECK.yes("same", x.same(1, 2));
        due("differ", x.differ(1, 2), 0);
        due("meeting", x.meeting(1, 2), 0);
        about("40: by COLOURS, however they came");
        x.paint(1, 0, 4, 1);
        x.paint(1, 5, 6, 2);
        x.paint(1, 9, 20, 2);
        x.cut(1, 15, 20);
        CHECK.yes("same", x.same(0, 1));
        CHECK.yes("same the other way", x.same(1, 0));
        due("differ", x.differ(0, 1), 0);
        due("meeting", x.meeting(0, 1), 13);
        about("40: one POINT makes the difference");
        x.cut(1, 14, 14);
        CHECK.no("same", x.same(0, 1));
        CHECK.no("same the other way", x.same(1, 0));
        due("differ", x.differ(0, 1), 1);
        due("differ the other way", x.differ(1, 0), 1);
        due("meeting", x.meeting(0, 1), 12);
        x.undo(1);
        x.paint(1, GREATEST, GREATEST, 7);
        CHECK.no("same", x.same(0, 1));
        due("differ", x.differ(0, 1), 1);
        x.undo(1);
        x.dye(1, 1, 3);
        CHECK.no("same BEGINS, another COLOUR", x.same(0, 1));
        due("differ", x.differ(0, 1), 5);
        due("meeting", x.meeting(1, 0), 8);

        about("41 and 42: all POINTS");
        Paintedline y = allOf(3);
        y.paint(1, LEAST, GREATEST, 3);
        y.paint(2, LEAST, GREATEST, 4);
        due("differ of the same", y.differ(0, 1), 0);
        due("meeting of the same", y.meeting(0, 1), ALL);
        due("differ of unlike ones", y.differ(0, 2), ALL);
        due("meeting of unlike ones", y.meeting(0, 2), 0);
        y.wash(2);
        due("differ from NONE", y.differ(0, 2), ALL);
        due("meeting with NONE", y.meeting(0, 2), 0);
        y.paint(2, LEAST, LEAST, 3);
        y.paint(2, GREATEST, GREATEST, 3);
        due("meeting at LEAST and GREATEST", y.meeting(0, 2), 2);
        due("differ but at LEAST and GREATEST", y.differ(2, 0), ALL - 2);
    }

    private static void everywhere() {
        about("43: a POINT of each LINE counts by itself");
        Paintedline x = new Paintedline();
        due("NONE at first", x.everywhere(0), 3 * ALL);
        due("1 at first", x.everywhere(1), 0);
        for (int line = 0; line <= 2; line++) {
            x.paint(line, 5, 5, 7);
            due("of 7", x.everywhere(7), line + 1);
            due("of NONE", x.everywhere(0), 3 * ALL - line - 1);
        }
        for (int line = 0; line <= 2; line++) {
            x.paint(line, LEAST, GREATEST, 1);
        }
        due("of 1", x.everywhere(1), 3 * ALL);
        due("of NONE", x.everywhere(0), 0);
    }

    private static void acts() {
        about("44: ACTS, TAKEN, WEIGHTS, the greatest NUMBER ever");
        Paintedline x = painted();
        x.shift(0, 1);
        x.undo(0);
        long[] want = {3, 1, 6, 4};
        for (int what = 0; what <= 3; what++) {
            due("acts " + what, x.acts(0, what), want[what]);
            due("acts of a line that was told nothing", x.acts(2, what), 0);
        }
        x.takeOut(0, 2);
        due("ACTS", x.acts(0, 0), 2);
        due("TAKEN", x.acts(0, 1), 0);
        due("WEIGHTS", x.acts(0, 2), 4);
        due("the greatest NUMBER is of no ACT of the row", x.acts(0, 3), 4);
        due("WEIGHTS of a full line", mostRanges().acts(0, 2), 40);
    }

    private static void actByAct() {
        about("45: 0 where it was told no more");
        Paintedline x = new Paintedline();
        x.paint(1, 1, 1, 1);
        int[][] want = {
            {2, 1, 2, LEAST, GREATEST, 7}, {3, 1, 2, 5, 5, 0}, {4, 2, 1, LEAST, 0, 0}, {5, 3, 0, 0, 0, 0},
            {6, 4, 0, 7, 6, 0}, {7, 5, 2, 1, 0, 0}, {8, 6, 0, 2, 0, 0}, {9, 2, 1, 0, 0, 0}};
        // What stood at these places before must not show.
        x.paint(0, 1, 2, 3);
        for (int i = 0; i < 12; i++) {
            x.paint(0, 1, 2, 3);
        }
        x.wash(0);
        Paintedline y = new Paintedline();
        for (Paintedline z : new Paintedline[] {x, y}) {
            int first = z.acts(0, 3);
            if (z == y) {
                z.paint(1, 1, 1, 1);
            }
            z.paint(0, LEAST, GREATEST, 7);
            z.cut(0, 5, 5);
            z.shift(0, LEAST);
            z.mirror(0);
            z.dye(0, 7, 6);
            z.lay(0, 1);
            z.meet(0, 2);
            z.shift(0, 0);
            for (int place = 0; place < want.length; place++) {
                due("NUMBER at place " + place, z.act(0, place, 0), first + place + 1);
                for (int what = 1; what <= 5; what++) {
                    due("act " + place + " " + what, z.act(0, place, what), want[place][what]);
                }
            }
        }
        about("45: there is no such place");
        CHECK.badLine(y, "place 8 of 8", () -> y.act(0, 8, 0));
        CHECK.badLine(y, "place -1", () -> y.act(0, -1, 0));
        CHECK.badLine(y, "place 0 of none", () -> y.act(2, 0, 0));
        y.undo(0);
        CHECK.badLine(y, "place of one in TAKEN", () -> y.act(0, 7, 0));
        about("45: the place is named ahead of what");
        CHECK.badLine(y, "place 7, what 6", () -> y.act(0, 7, 6));
        CHECK.badValue(y, "place 6, what 6", () -> y.act(0, 6, 6));
        CHECK.badValue(y, "place 6, what -1", () -> y.act(0, 6, -1));
        about("45: a row of 16");
        Paintedline full = new Paintedline();
        for (int i = 0; i < 16; i++) {
            full.shift(0, i);
        }
        due("NUMBER at place 15", full.act(0, 15, 0), 16);
        due("by how much at place 15", full.act(0, 15, 3), 15);
        CHECK.badLine(full, "place 16 of 16", () -> full.act(0, 16, 0));
        about("45: of a FILL, an ALLOT and a PEEL what they PAINT");
        Paintedline f = painted();
        f.fill(0, GREATEST, 3);
        f.allot(0, 4, 5);
        f.peel(0, 1);
        int[][] painted = {{4, 1, 2, 15, GREATEST, 3}, {5, 1, 2, LEAST, LEAST + 3, 5}, {6, 1, 2, 15, GREATEST, 0}};
        for (int i = 0; i < 3; i++) {
            for (int what = 0; what <= 5; what++) {
                due("act " + (3 + i) + " " + what, f.act(0, 3 + i, what), painted[i][what]);
            }
        }
    }

    private static void tried() {
        about("46: how many of these there were ever");
        Paintedline x = new Paintedline();
        due("KNOCKS", x.tried(0), 0);
        due("BLOTS", x.tried(1), 0);
        x.knock();
        due("KNOCKS", x.tried(0), 1);
        due("BLOTS", x.tried(1), 0);
        x.blot(2, 0, 0);
        x.blot(0, 0, 0);
        x.wash(0);
        x.wash(2);
        due("KNOCKS", x.tried(0), 1);
        due("BLOTS", x.tried(1), 2);
    }

    // ---- promises 47 to 50

    private static void wouldBe() {
        Paintedline x = painted();
        about("47: how many RANGES there were");
        due("within a RANGE", x.wouldBe(0, 11, 11, 3), 8);
        due("the COLOUR that is there", x.wouldBe(0, 11, 11, 2), 6);
        due("a whole RANGE", x.wouldBe(0, 9, 14, 3), 6);
        due("a gap between two of that COLOUR", x.wouldBe(0, 7, 8, 2), 4);
        due("beside one of that COLOUR", x.wouldBe(0, 15, 20, 2), 6);
        due("beside one of another COLOUR", x.wouldBe(0, 15, 20, 1), 7);
        due("all POINTS", x.wouldBe(0, LEAST, GREATEST, 5), 1);
        due("all POINTS with NONE", x.wouldBe(0, LEAST, GREATEST, 0), 1);
        due("LEAST", x.wouldBe(0, LEAST, LEAST, 5), 7);
        due("LEAST with NONE", x.wouldBe(0, LEAST, LEAST, 0), 6);
        due("GREATEST", x.wouldBe(0, GREATEST, GREATEST, 5), 7);
        due("on a new line", x.wouldBe(1, 0, 0, 1), 3);
        about("47: whether a LINE is FULL does not matter");
        Paintedline y = mostRanges();
        due("41 RANGES and 2", y.wouldBe(0, 1000, 1000, 1), 43);
        due("41 RANGES and 1", y.wouldBe(0, GREATEST, GREATEST, 1), 42);
        due("all POINTS", y.wouldBe(0, LEAST, GREATEST, 1), 1);
        due("within 41 RANGES", y.wouldBe(0, 0, 38, 1), 3);
        CHECK.yes("isSound()", y.isSound());
        for (int i = 0; i < 16; i++) {
            x.mirror(2);
        }
        due("16 ACTS", x.wouldBe(2, 0, 0, 1), 3);
        due("ACTS", x.acts(2, 0), 16);
    }

    private static void wouldFall() {
        Paintedline x = painted();
        x.paint(0, LEAST, LEAST + 1, 3);
        x.paint(0, GREATEST, GREATEST, 4);
        about("48: how many POINTS that are not NONE fell off");
        due("by 0", x.wouldFall(0, 0), 0);
        due("by 1", x.wouldFall(0, 1), 1);
        due("by -1", x.wouldFall(0, -1), 1);
        due("by 2", x.wouldFall(0, 2), 1);
        due("by -2", x.wouldFall(0, -2), 2);
        due("by -3", x.wouldFall(0, -3), 2);
        // All but the POINT 0 and the two at LEAST.
        due("by GREATEST", x.wouldFall(0, GREATEST), 13);
        due("by LEAST", x.wouldFall(0, LEAST), 2);
        due("of all POINTS by GREATEST", allOf(1).wouldFall(0, GREATEST), 2147483647L);
        due("of all POINTS by LEAST", allOf(1).wouldFall(0, LEAST), 2147483648L);
        due("of NONE by LEAST", x.wouldFall(1, LEAST), 0);
        about("48: whether a LINE is FULL does not matter");
        due("40 of WEIGHT", mostRanges().wouldFall(0, GREATEST - 37), 1);
        due("40 of WEIGHT", mostRanges().wouldFall(0, GREATEST), 19);
        about("48: as SHIFT does");
        for (int by : new int[] {0, 1, -1, 2, -3, GREATEST, LEAST, LEAST + 1}) {
            long would = x.wouldFall(0, by);
            due("shift by " + by, x.shift(0, by), would);
            x.undo(0);
        }
    }

    private static void without() {
        about("49: if this ACT were TAKEN OUT");
        Paintedline x = painted();
        long[][] want = {{5, 5, 8}, {5, 8, 8}, {4, 2, 15}};
        for (int number = 1; number <= 3; number++) {
            for (int what = 0; what <= 2; what++) {
                due("without " + number + " " + what, x.without(0, number, what), want[number - 1][what]);
            }
        }
        about("49: the only ACT, of all POINTS");
        Paintedline y = allOf(1);
        due("RANGES", y.without(0, 1, 0), 1);
        due("another COLOUR than now", y.without(0, 1, 1), ALL);
        due("not NONE", y.without(0, 1, 2), 0);
        y.cut(0, LEAST, GREATEST);
        due("another COLOUR than now", y.without(0, 2, 1), ALL);
        due("not NONE", y.without(0, 2, 2), ALL);
        due("an ACT that is hidden", y.without(0, 1, 1), 0);
        about("49: no ACT of the row has that NUMBER");
        x.undo(0);
        for (int number : new int[] {0, 3, 4, -1, LEAST, GREATEST}) {
            CHECK.badValue(x, "without " + number, () -> x.without(0, number, 0));
        }
        CHECK.badValue(x, "without on a line without ACTS", () -> x.without(1, 1, 0));
        about("49: of a full line");
        Paintedline z = mostRanges();
        due("without the LAY, RANGES", z.without(0, 11, 0), 21);
        due("without the LAY, another COLOUR", z.without(0, 11, 1), 10);
        due("without the LAY, not NONE", z.without(0, 11, 2), 10);
        due("without the first, RANGES", z.without(0, 1, 0), 39);
        due("ranges", z.ranges(0, -1), 41);
    }

    private static void eitherOrder() {
        about("50: whether all POINTS had the same COLOURS");
        Paintedline x = painted();
        CHECK.yes("side by side", x.eitherOrder(0, 0, 4, 5, 9));
        CHECK.yes("side by side, the other one below", x.eitherOrder(0, 5, 9, 0, 4));
        CHECK.no("one POINT of both", x.eitherOrder(0, 0, 5, 5, 9));
        CHECK.no("one POINT of both, the other one below", x.eitherOrder(0, 5, 9, 0, 5));
        CHECK.no("the same", x.eitherOrder(0, 5, 9, 5, 9));
        CHECK.no("the same POINT", x.eitherOrder(0, 5, 5, 5, 5));
        CHECK.no("one within the other", x.eitherOrder(0, 0, 9, 3, 4));
        CHECK.no("the other within the one", x.eitherOrder(0, 3, 4, 0, 9));
        CHECK.no("all POINTS", x.eitherOrder(0, LEAST, GREATEST, LEAST, GREATEST));
        CHECK.yes("LEAST and GREATEST", x.eitherOrder(0, LEAST, LEAST, GREATEST, GREATEST));
        CHECK.yes("GREATEST and LEAST", x.eitherOrder(0, GREATEST, GREATEST, LEAST, LEAST));
        CHECK.yes("the two halves", x.eitherOrder(0, LEAST, -1, 0, GREATEST));
        CHECK.no("the two halves and one POINT", x.eitherOrder(0, LEAST, 0, 0, GREATEST));
        about("50: whether a LINE is FULL does not matter");
        CHECK.yes("apart", mostRanges().eitherOrder(0, 0, 0, 1, 1));
        CHECK.no("not apart", mostRanges().eitherOrder(0, 0, 1, 1, 1));
    }

    // ---- promises 51 and 52

    private static void sound() {
        about("51: all of this is so");
        CHECK.yes("of a new object", new Paintedline().isSound());
        CHECK.yes("of all POINTS", allOf(7).isSound());
        CHECK.yes("of LEAST and GREATEST", bothEnds().isSound());
        CHECK.yes("of a full line", mostRanges().isSound());
        Paintedline x = mostRanges();
        x.frame(0, 1000, 1000);
        CHECK.yes("a FRAME that parts the last of 41 RANGES", x.isSound());
        x.frame(0, GREATEST, GREATEST);
        CHECK.yes("a FRAME of GREATEST", x.isSound());
        x.frame(0, LEAST, LEAST);
        CHECK.yes("a FRAME of LEAST", x.isSound());
        x.undo(0);
        x.takeOut(0, 3);
        x.mirror(0);
        x.shift(0, GREATEST);
        x.dye(0, 0, 3);
        x.meet(0, 1);
        CHECK.yes("behind many ACTS", x.isSound());
        x.wash(0);
        CHECK.yes("behind washing", x.isSound());
    }

    /** The numbers were reckoned outside of the program, by the words of promise 52. */
    private static void digests() {
        about("52: d wraps around as a 64-bit integer");
        Paintedline x = new Paintedline();
        due("digest of a new object", x.digest(), -3388747179324992985L);
        x.paint(0, 0, 9, 1);
        x.frame(0, 0, 9);
        x.knock();
        x.knock();
        x.blot(2, 0, 0);
        x.paint(1, 5, 9, 1);
        x.undo(1);
        due("digest", x.digest(), 7602656527332665622L);
        due("digest once more", x.digest(), 7602656527332665622L);

        about("52: in this order");
        Paintedline y = new Paintedline();
        y.paint(0, LEAST, LEAST, 1);
        y.paint(0, LEAST + 2, LEAST + 3, 1);
        y.paint(0, 0, 0, 2);
        y.paint(0, GREATEST, GREATEST, 3);
        y.mirror(0);
        y.undo(0);
        y.frame(0, LEAST + 1, 0);
        y.paint(1, LEAST, LEAST, 1);
        y.paint(1, 0, 4, 2);
        y.shift(1, 1);
        y.dye(1, 0, 5);
        y.lay(1, 0);
        y.fill(2, 0, 5);
        y.meet(2, 1);
        y.frame(2, 6, 6);
        y.blot(0, 0, 0);
        y.blot(1, 0, 0);
        y.blot(2, 0, 0);
        due("digest of three lines", y.digest(), -8031936136839475352L);
    }

    private EdgeAskTest() {
    }
}

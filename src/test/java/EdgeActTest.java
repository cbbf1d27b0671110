/** Sections 1 and 2 and promises 1 to 18 of the document: a test for each sentence that names a boundary. */
final class EdgeActTest {
    private static final int LEAST = Integer.MIN_VALUE;
    private static final int GREATEST = Integer.MAX_VALUE;
    private static final long NOWHERE = 2147483648L;
    private static final long ALL = 4294967296L;
    private static final String BLANK = "-2147483648=0";

    private static final Check CHECK = new Check();

    /** Something that is done to an object. */
    private interface Deed {
        void on(Paintedline x);
    }

    public static void main(String[] args) {
        lines();
        ranges();
        newObject();
        paints();
        shifts();
        mirrors();
        dyes();
        lays();
        meets();
        weights();
        pictures();
        actsThatChangeNoColour();
        numbers();
        fullByCount();
        fullByWeight();
        fullByPicture();
        undoAndAgain();
        againOnFullLines();
        takenIsEmptied();
        takenStays();
        takenOut();
        takenOutAnywhere();
        washing();
        fills();
        allots();
        peels();
        frames();
        blotsAndKnocks();
        manyCalls();
        CHECK.end();
    }

    private static void about(String words) {
        CHECK.about(words);
    }

    private static void due(String call, long got, long want) {
        CHECK.due(call, got, want);
    }

    private static void textIs(Paintedline x, int line, String want) {
        CHECK.due("text(" + line + ")", x.text(line), want);
        CHECK.yes("isSound()", x.isSound());
    }

    // ---- section 1, promise 1

    private static void lines() {
        about("1: there are three LINES, 0 to 2");
        Paintedline x = new Paintedline();
        x.paint(0, 1, 1, 1);
        x.paint(1, 2, 2, 2);
        x.paint(2, 3, 3, 3);
        textIs(x, 0, BLANK + " 1=1 2=0");
        textIs(x, 1, BLANK + " 2=2 3=0");
        textIs(x, 2, BLANK + " 3=3 4=0");

        about("1: LEAST is -2147483648, GREATEST is 2147483647");
        Paintedline y = new Paintedline();
        y.paint(0, LEAST, LEAST, 6);
        y.paint(0, GREATEST, GREATEST, 7);
        due("colour of LEAST", y.colour(0, LEAST), 6);
        due("colour of LEAST + 1", y.colour(0, LEAST + 1), 0);
        due("colour of GREATEST - 1", y.colour(0, GREATEST - 1), 0);
        due("colour of GREATEST", y.colour(0, GREATEST), 7);

        about("1: the LENGTH from a to b is b - a + 1, up to 4294967296");
        due("of one POINT", y.range(0, 0, 3), 1);
        due("of all but two POINTS", y.range(0, 1, 3), ALL - 2);
        due("of one POINT", y.range(0, 2, 3), 1);
        due("of all POINTS", y.range(1, 0, 3), ALL);
        y.paint(0, LEAST, -1, 1);
        due("of one half", y.range(0, 0, 3), 2147483648L);

        about("1: a COLOUR is 0 to 7");
        for (int colour = 1; colour <= 7; colour++) {
            y.paint(2, 0, 0, colour);
            due("colour", y.colour(2, 0), colour);
        }
    }

    private static void ranges() {
        about("1: a RANGE is as long as can be");
        Paintedline x = new Paintedline();
        x.paint(0, 0, 4, 1);
        x.paint(0, 5, 9, 1);
        textIs(x, 0, BLANK + " 0=1 10=0");
        x.paint(0, -3, -1, 1);
        textIs(x, 0, BLANK + " -3=1 10=0");
        x.paint(0, 20, 29, 1);
        x.paint(0, 10, 19, 1);
        textIs(x, 0, BLANK + " -3=1 30=0");
        x.paint(0, 5, 6, 2);
        x.paint(0, 5, 6, 1);
        textIs(x, 0, BLANK + " -3=1 30=0");
        x.cut(0, -3, 29);
        textIs(x, 0, BLANK);

        about("1: NONE has RANGES, too");
        x.paint(0, 0, 0, 1);
        due("ranges of NONE", x.ranges(0, 0), 2);
        due("COLOUR of RANGE 0", x.range(0, 0, 2), 0);
        due("COLOUR of RANGE 2", x.range(0, 2, 2), 0);

        about("1: there is one RANGE at least; RANGE 0 begins at LEAST, the last one ends at GREATEST");
        x.paint(0, LEAST, GREATEST, 5);
        due("ranges", x.ranges(0, -1), 1);
        due("BEGIN", x.range(0, 0, 0), LEAST);
        due("END", x.range(0, 0, 1), GREATEST);
        x.paint(0, LEAST, LEAST, 1);
        x.paint(0, GREATEST, GREATEST, 1);
        due("ranges", x.ranges(0, -1), 3);
        due("BEGIN of RANGE 0", x.range(0, 0, 0), LEAST);
        due("END of RANGE 0", x.range(0, 0, 1), LEAST);
        due("BEGIN of the last", x.range(0, 2, 0), GREATEST);
        due("END of the last", x.range(0, 2, 1), GREATEST);
    }

    private static void newObject() {
        about("promise 1: three lines of NONE");
        Paintedline x = new Paintedline();
        for (int line = 0; line <= 2; line++) {
            textIs(x, line, BLANK);
            for (int what = 0; what <= 3; what++) {
                due("acts " + what, x.acts(line, what), 0);
            }
            due("FRAME from", x.framed(line, 3), LEAST);
            due("FRAME to", x.framed(line, 4), GREATEST);
        }
        due("KNOCKS", x.tried(0), 0);
        due("BLOTS", x.tried(1), 0);
        about("promise 1: two objects share nothing");
        Paintedline y = new Paintedline();
        y.paint(0, 0, 9, 1);
        y.knock();
        textIs(x, 0, BLANK);
        due("KNOCKS", x.tried(0), 0);
    }

    // ---- section 2, the kinds; promises 2, 3, 7 to 11

    private static void paints() {
        about("2: PAINT of one POINT");
        Paintedline x = new Paintedline();
        due("paint", x.paint(0, 5, 5, 1), 1);
        textIs(x, 0, BLANK + " 5=1 6=0");

        about("2: PAINT within a RANGE");
        x.paint(0, 0, 9, 1);
        x.paint(0, 4, 4, 2);
        textIs(x, 0, BLANK + " 0=1 4=2 5=1 10=0");
        x.paint(0, 5, 6, 3);
        textIs(x, 0, BLANK + " 0=1 4=2 5=3 7=1 10=0");

        about("2: PAINT of a whole RANGE and no more");
        x.paint(0, 4, 4, 4);
        textIs(x, 0, BLANK + " 0=1 4=4 5=3 7=1 10=0");

        about("2: PAINT over many RANGES");
        x.paint(0, 1, 8, 1);
        textIs(x, 0, BLANK + " 0=1 10=0");
        x.paint(0, -1, 10, 2);
        textIs(x, 0, BLANK + " -1=2 11=0");

        about("2: PAINT from LEAST, PAINT to GREATEST, nothing comes around");
        x.paint(0, LEAST, -2, 3);
        textIs(x, 0, "-2147483648=3 -1=2 11=0");
        x.paint(0, 11, GREATEST, 4);
        textIs(x, 0, "-2147483648=3 -1=2 11=4");
        x.paint(0, GREATEST, GREATEST, 5);
        textIs(x, 0, "-2147483648=3 -1=2 11=4 2147483647=5");
        x.paint(0, LEAST, LEAST, 5);
        textIs(x, 0, "-2147483648=5 -2147483647=3 -1=2 11=4 2147483647=5");

        about("2: PAINT of all POINTS");
        x.paint(0, LEAST, GREATEST, 7);
        textIs(x, 0, "-2147483648=7");

        about("3: CUT is a PAINT with NONE");
        due("cut of one POINT", x.cut(0, LEAST, LEAST), 13);
        textIs(x, 0, "-2147483648=0 -2147483647=7");
        x.cut(0, GREATEST, GREATEST);
        textIs(x, 0, "-2147483648=0 -2147483647=7 2147483647=0");
        due("KIND", x.act(0, 13, 1), 1);
        due("WEIGHT", x.act(0, 13, 2), 2);
        due("COLOUR", x.act(0, 13, 5), 0);
        due("cut of all POINTS", x.cut(0, LEAST, GREATEST), 15);
        textIs(x, 0, BLANK);
    }

    private static Paintedline allOf(int colour) {
        Paintedline x = new Paintedline();
        x.paint(0, LEAST, GREATEST, colour);
        return x;
    }

    private static void shifts() {
        about("2: NONE if p - s is no POINT");
        Paintedline x = allOf(4);
        due("shift", x.shift(0, 3), 3);
        textIs(x, 0, "-2147483648=0 -2147483645=4");
        Paintedline y = allOf(4);
        due("shift", y.shift(0, -3), 3);
        textIs(y, 0, "-2147483648=4 2147483645=0");

        about("2: what FELL OFF does not come back");
        Paintedline back = allOf(4);
        back.shift(0, 1);
        back.shift(0, -1);
        textIs(back, 0, "-2147483648=4 2147483647=0");

        about("2: what FALLS OFF does not come around");
        Paintedline high = new Paintedline();
        high.paint(0, GREATEST, GREATEST, 1);
        due("shift of GREATEST by 1", high.shift(0, 1), 1);
        textIs(high, 0, BLANK);
        Paintedline low = new Paintedline();
        low.paint(0, LEAST, LEAST, 1);
        due("shift of LEAST by -1", low.shift(0, -1), 1);
        textIs(low, 0, BLANK);

        about("7: 0 to stay");
        Paintedline stays = allOf(4);
        due("shift by 0", stays.shift(0, 0), 0);
        textIs(stays, 0, "-2147483648=4");
        due("WEIGHT", stays.acts(0, 2), 3);

        about("7: by GREATEST");
        Paintedline far = new Paintedline();
        far.paint(0, 0, 1, 1);
        far.paint(0, LEAST, LEAST, 2);
        due("shift", far.shift(0, GREATEST), 1);
        textIs(far, 0, BLANK + " -1=2 0=0 2147483647=1");
        due("shift of all", allOf(4).shift(0, GREATEST), 2147483647L);

        about("7: by LEAST");
        Paintedline near = new Paintedline();
        near.paint(0, -1, 0, 1);
        near.paint(0, GREATEST, GREATEST, 2);
        due("shift", near.shift(0, LEAST), 1);
        textIs(near, 0, "-2147483648=1 -2147483647=0 -1=2 0=0");
        due("shift of all", allOf(4).shift(0, LEAST), 2147483648L);

        about("7: how many POINTS that were not NONE FALL OFF");
        due("shift of a new line", new Paintedline().shift(0, LEAST), 0);
        Paintedline mixed = new Paintedline();
        mixed.paint(0, GREATEST - 4, GREATEST - 3, 1);
        mixed.paint(0, GREATEST - 1, GREATEST - 1, 2);
        due("shift, NONE falls off alone", mixed.shift(0, 1), 0);
        due("shift, one falls off", mixed.shift(0, 1), 1);
        due("shift, all fall off", mixed.shift(0, 99), 2);
    }

    private static void mirrors() {
        about("2: -1 - p of LEAST is GREATEST, of -1 is 0");
        Paintedline x = new Paintedline();
        x.paint(0, LEAST, LEAST, 1);
        x.paint(0, -1, -1, 2);
        due("mirror", x.mirror(0), 3);
        textIs(x, 0, BLANK + " 0=2 1=0 2147483647=1");
        x.mirror(0);
        textIs(x, 0, "-2147483648=1 -2147483647=0 -1=2 0=0");

        about("2: MIRROR of one RANGE");
        Paintedline y = allOf(4);
        y.mirror(0);
        textIs(y, 0, "-2147483648=4");
    }

    private static void dyes() {
        about("2: DYE, both may be the same");
        Paintedline x = new Paintedline();
        x.paint(0, 0, 4, 1);
        x.paint(0, 5, 9, 2);
        due("dye", x.dye(0, 1, 1), 0);
        textIs(x, 0, BLANK + " 0=1 5=2 10=0");
        due("dye of NONE to NONE", x.dye(0, 0, 0), 0);

        about("9: how many POINTS have another COLOUR then");
        due("dye of a COLOUR that no POINT has", x.dye(0, 7, 1), 0);
        due("dye that melts", x.dye(0, 2, 1), 5);
        textIs(x, 0, BLANK + " 0=1 10=0");
        due("dye to NONE", x.dye(0, 1, 0), 10);
        textIs(x, 0, BLANK);
        due("dye of all POINTS", x.dye(0, 0, 7), ALL);
        textIs(x, 0, "-2147483648=7");
        due("dye of all POINTS to NONE", x.dye(0, 7, 0), ALL);
        textIs(x, 0, BLANK);
    }

    private static void lays() {
        about("2: LAY of a LINE that is NONE");
        Paintedline x = new Paintedline();
        x.paint(0, LEAST, GREATEST, 3);
        due("lay", x.lay(0, 1), 2);
        textIs(x, 0, "-2147483648=3");
        due("WEIGHT", x.act(0, 1, 2), 0);

        about("2: LAY, LEAST and GREATEST");
        x.paint(1, LEAST, LEAST, 1);
        x.paint(1, GREATEST, GREATEST, 2);
        x.lay(0, 1);
        textIs(x, 0, "-2147483648=1 -2147483647=3 2147483647=2");

        about("2: LAY of a LINE without NONE");
        x.dye(1, 0, 5);
        x.lay(0, 1);
        textIs(x, 0, "-2147483648=1 -2147483647=5 2147483647=2");
        CHECK.yes("same", x.same(0, 1));

        about("2: LAY, each POINT which is not NONE on that one");
        Paintedline y = new Paintedline();
        y.paint(0, 0, 9, 1);
        y.paint(1, 5, 14, 2);
        y.cut(1, 7, 8);
        y.lay(0, 1);
        textIs(y, 0, BLANK + " 0=1 5=2 7=1 9=2 15=0");
        textIs(y, 1, BLANK + " 5=2 7=0 9=2 15=0");

        about("2: LAY where the LINE has the COLOUR already");
        y.lay(0, 1);
        textIs(y, 0, BLANK + " 0=1 5=2 7=1 9=2 15=0");
    }

    private static void meets() {
        about("2: MEET, each POINT that has not the same COLOUR on both is NONE then");
        Paintedline x = new Paintedline();
        x.paint(0, 0, 9, 1);
        x.paint(0, 20, 29, 3);
        x.paint(1, 5, 14, 1);
        x.paint(1, 20, 24, 4);
        x.paint(1, 40, 40, 5);
        due("meet", x.meet(0, 1), 3);
        textIs(x, 0, BLANK + " 5=1 10=0");
        due("WEIGHT", x.act(0, 2, 2), 6);

        about("2: MEET with a LINE of the same COLOURS");
        x.lay(2, 0);
        x.meet(0, 2);
        textIs(x, 0, BLANK + " 5=1 10=0");

        about("2: MEET with a LINE that is NONE");
        x.wash(2);
        x.meet(0, 2);
        textIs(x, 0, BLANK);
        due("WEIGHT", x.act(0, 4, 2), 0);

        about("2: MEET of a LINE that is NONE");
        x.meet(0, 1);
        textIs(x, 0, BLANK);

        about("2: MEET, LEAST and GREATEST");
        x.paint(2, LEAST, GREATEST, 6);
        x.paint(0, LEAST, GREATEST, 6);
        x.cut(2, 0, 0);
        x.meet(0, 2);
        textIs(x, 0, "-2147483648=6 0=0 1=6");
    }

    /** 21 RANGES, a WEIGHT of 20 for LAY and MEET. */
    private static void paintTen(Paintedline x, int line) {
        for (int i = 0; i < 10; i++) {
            x.paint(line, 4 * i, 4 * i, 1);
        }
    }

    /** A WEIGHT of 20 to 40 on the line 0 by a LAY and by PAINTS and a SHIFT; 2 * 41 RANGES at most. */
    private static Paintedline weighing(int weight) {
        Paintedline x = new Paintedline();
        paintTen(x, 1);
        x.lay(0, 1);
        for (int i = 22; i <= weight; i += 2) {
            x.paint(0, 4 * i + 2, 4 * i + 2, 2);
        }
        if (weight % 2 == 1) {
            x.shift(0, 0);
        }
        due("WEIGHTS", x.acts(0, 2), weight);
        return x;
    }

    private static void weights() {
        about("2: the WEIGHT of each KIND");
        Paintedline x = new Paintedline();
        x.paint(1, 0, 0, 1);
        x.paint(0, 0, 0, 1);
        x.shift(0, 1);
        x.mirror(0);
        x.dye(0, 1, 2);
        x.lay(0, 1);
        x.meet(0, 1);
        int[] want = {2, 1, 0, 0, 2, 2};
        for (int place = 0; place < want.length; place++) {
            due("KIND", x.act(0, place, 1), place + 1);
            due("WEIGHT of KIND " + (place + 1), x.act(0, place, 2), want[place]);
        }
        due("all WEIGHTS", x.acts(0, 2), 7);

        about("2: WEIGHT of LAY and MEET, how many RANGES as the ACT is told");
        x.paint(1, 10, 10, 2);
        x.paint(1, 20, 20, 2);
        due("WEIGHT of LAY", x.act(0, 4, 2), 2);
        due("WEIGHT of MEET", x.act(0, 5, 2), 2);
        x.undo(0);
        x.undo(0);
        x.again(0);
        x.again(0);
        due("all WEIGHTS", x.acts(0, 2), 7);
        x.lay(0, 1);
        due("WEIGHT of a LAY told now", x.act(0, 6, 2), 6);

        about("2: WEIGHT of a LINE of as many RANGES as there can be");
        Paintedline most = weighing(40);
        due("ranges", most.ranges(0, -1), 41);
        due("lay", most.lay(2, 0), 1);
        due("WEIGHT", most.act(2, 0, 2), 40);
        CHECK.yes("same", most.same(0, 2));
        CHECK.yes("isSound()", most.isSound());
        most.undo(2);
        due("meet", most.meet(2, 0), 2);
        due("WEIGHT", most.act(2, 0, 2), 40);
        textIs(most, 2, BLANK);
    }

    private static void pictures() {
        about("2: they go by the PICTURE, whatever becomes of the other LINE");
        Deed[] deeds = {
            x -> x.paint(1, 3, 99, 6), x -> x.cut(1, LEAST, GREATEST), x -> x.fill(1, 2, 7), x -> x.allot(1, 9, 1),
            x -> x.peel(1, 0), x -> x.shift(1, 1), x -> x.mirror(1), x -> x.dye(1, 0, 2), x -> x.lay(1, 2),
            x -> x.meet(1, 2), x -> x.undo(1), x -> x.takeOut(1, 1), x -> x.wash(1), x -> x.lay(1, 0),
            x -> x.meet(1, 0)};
        for (Deed deed : deeds) {
            Paintedline x = new Paintedline();
            x.paint(2, 6, 7, 5);
            x.paint(1, 0, 4, 1);
            x.paint(1, 8, 9, 2);
            x.paint(0, 2, 2, 3);
            x.lay(0, 1);
            x.meet(0, 1);
            deed.on(x);
            textIs(x, 0, BLANK + " 0=1 5=0 8=2 10=0");
            x.undo(0);
            x.undo(0);
            textIs(x, 0, BLANK + " 2=3 3=0");
            x.again(0);
            x.again(0);
            textIs(x, 0, BLANK + " 0=1 5=0 8=2 10=0");
            due("takeOut", x.takeOut(0, 1), 0);
            textIs(x, 0, BLANK + " 0=1 5=0 8=2 10=0");
            due("takeOut of the LAY", x.takeOut(0, 2), 7);
            textIs(x, 0, BLANK);
        }

        about("2: each ACT keeps a PICTURE of its own");
        Paintedline y = new Paintedline();
        for (int i = 0; i < 4; i++) {
            y.paint(1, i, i, 1 + i);
            y.lay(0, 1);
            y.wash(1);
        }
        textIs(y, 0, BLANK + " 0=1 1=2 2=3 3=4 4=0");
        y.takeOut(0, 2);
        textIs(y, 0, BLANK + " 0=1 1=0 2=3 3=4 4=0");
        y.paint(1, 9, 9, 7);
        y.lay(0, 1);
        y.undo(0);
        y.undo(0);
        textIs(y, 0, BLANK + " 0=1 1=0 2=3 3=0");
        y.again(0);
        y.again(0);
        textIs(y, 0, BLANK + " 0=1 1=0 2=3 3=4 4=0 9=7 10=0");
    }

    /** A line 0 of one RANGE of 3 from 0 to 9, with an ACT in TAKEN. */
    private static Paintedline withTaken() {
        Paintedline x = new Paintedline();
        x.paint(1, 0, 9, 3);
        x.paint(0, 0, 9, 3);
        x.paint(0, 20, 29, 4);
        x.undo(0);
        return x;
    }

    private static void actsThatChangeNoColour() {
        about("2: an ACT that changes no COLOUR is an ACT, too");
        Deed[] deeds = {
            x -> x.paint(0, 2, 5, 3), x -> x.cut(0, 10, 19), x -> x.fill(0, 4, 3), x -> x.fill(0, LEAST, 0),
            x -> x.shift(0, 0), x -> x.dye(0, 3, 3), x -> x.dye(0, 5, 6), x -> x.lay(0, 1), x -> x.lay(0, 2),
            x -> x.meet(0, 1)};
        for (int i = 0; i < deeds.length; i++) {
            Paintedline x = withTaken();
            deeds[i].on(x);
            textIs(x, 0, BLANK + " 0=3 10=0");
            due("ACTS by deed " + i, x.acts(0, 0), 2);
            due("TAKEN by deed " + i, x.acts(0, 1), 0);
            due("the greatest NUMBER by deed " + i, x.acts(0, 3), 3);
            due("NUMBER by deed " + i, x.act(0, 1, 0), 3);
        }
        Paintedline y = new Paintedline();
        due("mirror of NONE", y.mirror(0), 1);
        due("cut of NONE", y.cut(0, 0, 9), 2);
        due("undo", y.undo(0), 2);
        due("undo", y.undo(0), 1);
    }

    private static void numbers() {
        about("2: NUMBER 1 for the first one ever told to that LINE");
        Paintedline x = new Paintedline();
        due("on line 0", x.mirror(0), 1);
        due("on line 0", x.mirror(0), 2);
        due("on line 2", x.mirror(2), 1);
        due("on line 1", x.paint(1, 0, 0, 1), 1);

        about("2: a NUMBER never comes again");
        x.undo(0);
        due("behind an undo", x.mirror(0), 3);
        x.takeOut(0, 3);
        due("behind a takeOut", x.mirror(0), 4);
        x.wash(0);
        due("behind washing", x.mirror(0), 5);
        x.undo(0);
        x.wash(0);
        due("the greatest NUMBER behind washing", x.acts(0, 3), 5);
        due("behind washing with TAKEN", x.mirror(0), 6);

        about("2: AGAIN, with its NUMBER");
        x.undo(0);
        due("again", x.again(0), 6);
        due("the greatest NUMBER", x.acts(0, 3), 6);

        about("2: what is no ACT has no NUMBER");
        x.peel(0, 0);
        x.frame(0, 0, 0);
        x.blot(0, 0, 1);
        due("the greatest NUMBER", x.acts(0, 3), 6);
        x.shift(0, 0);
        due("the next NUMBER", x.act(0, 1, 0), 7);
    }

    // ---- FULL

    private static boolean isFull(Paintedline x, Deed deed) {
        return Check.nameOfThrown(() -> deed.on(x)).equals("IllegalStateException");
    }

    private static void fullByCount() {
        about("2: at most 16 ACTS in the row");
        Deed[] deeds = {
            x -> x.paint(0, 0, 0, 1), x -> x.cut(0, 0, 0), x -> x.fill(0, 0, 1), x -> x.allot(0, 1, 1),
            x -> x.peel(0, 0), x -> x.shift(0, 1), x -> x.mirror(0), x -> x.dye(0, 1, 2), x -> x.lay(0, 1),
            x -> x.meet(0, 1)};
        for (int i = 0; i < deeds.length; i++) {
            Deed deed = deeds[i];
            Paintedline x = new Paintedline();
            x.paint(0, 0, 0, 1);
            for (int j = 0; j < 14; j++) {
                x.mirror(0);
            }
            due("ACTS", x.acts(0, 0), 15);
            CHECK.no("the 16th ACT is refused, deed " + i, isFull(x, deed));
            due("ACTS", x.acts(0, 0), 16);
            CHECK.yes("the 17th ACT is refused, deed " + i, isFull(x, deed));
            due("ACTS", x.acts(0, 0), 16);
            due("the greatest NUMBER", x.acts(0, 3), 16);
        }

        about("2: there is room again");
        Paintedline x = new Paintedline();
        for (int i = 0; i < 16; i++) {
            x.mirror(0);
        }
        x.undo(0);
        due("behind an undo", x.mirror(0), 17);
        x.takeOut(0, 5);
        due("behind a takeOut", x.mirror(0), 18);
        x.wash(0);
        due("behind washing", x.mirror(0), 19);
        about("2: a LINE is FULL for itself");
        Paintedline y = weighing(40);
        due("on another LINE", y.paint(2, 0, 0, 1), 1);
    }

    private static void fullByWeight() {
        about("2: all WEIGHTS and w together are more than 40, of 2");
        Deed[] deeds = {
            x -> x.paint(0, 0, 0, 1), x -> x.cut(0, 0, 0), x -> x.fill(0, 0, 1), x -> x.allot(0, 1, 1),
            x -> x.peel(0, 0)};
        for (int i = 0; i < deeds.length; i++) {
            Paintedline x = weighing(38);
            CHECK.no("refused on 38, deed " + i, isFull(x, deeds[i]));
            due("WEIGHTS", x.acts(0, 2), 40);
            CHECK.yes("refused on 39, deed " + i, isFull(weighing(39), deeds[i]));
            CHECK.yes("refused on 40, deed " + i, isFull(weighing(40), deeds[i]));
        }

        about("2: all WEIGHTS and w together are more than 40, of 1");
        CHECK.no("shift is refused on 39", isFull(weighing(39), x -> x.shift(0, 0)));
        CHECK.yes("shift is refused on 40", isFull(weighing(40), x -> x.shift(0, 0)));

        about("2: for the WEIGHT 0: just if it has 16");
        Paintedline x = weighing(40);
        due("ACTS", x.acts(0, 0), 11);
        due("mirror", x.mirror(0), 12);
        due("dye", x.dye(0, 5, 6), 0);
        due("lay of a LINE that is NONE", x.lay(0, 2), 14);
        due("meet with a LINE that is NONE", x.meet(0, 2), 15);
        due("mirror", x.mirror(0), 16);
        CHECK.yes("mirror is refused as the 17th", isFull(x, y -> y.mirror(0)));

        about("2: what is taken back has no WEIGHT");
        Paintedline y = weighing(40);
        y.undo(0);
        due("WEIGHTS", y.acts(0, 2), 38);
        due("paint", y.paint(0, 0, 0, 1), 12);
        due("WEIGHTS", y.acts(0, 2), 40);
        y.takeOut(0, 1);
        due("WEIGHTS", y.acts(0, 2), 20);
        due("lay", y.lay(0, 1), 13);
        y.wash(0);
        due("WEIGHTS", y.acts(0, 2), 0);
    }

    private static void fullByPicture() {
        about("10 and 11: FULL for the WEIGHT");
        CHECK.no("lay of 20 is refused on 20", isFull(weighing(20), x -> x.lay(0, 1)));
        CHECK.no("meet of 20 is refused on 20", isFull(weighing(20), x -> x.meet(0, 1)));
        CHECK.yes("lay of 20 is refused on 21", isFull(weighing(21), x -> x.lay(0, 1)));
        CHECK.yes("meet of 20 is refused on 21", isFull(weighing(21), x -> x.meet(0, 1)));
        CHECK.yes("lay of 20 is refused on 40", isFull(weighing(40), x -> x.lay(0, 1)));

        about("10: the WEIGHT of the other LINE as it is now");
        Paintedline x = weighing(21);
        x.undo(1);
        due("lay of 18", x.lay(0, 1), 3);
        due("WEIGHTS", x.acts(0, 2), 39);
        x.wash(1);
        x.fill(1, 0, 1);
        due("lay of a LINE of one RANGE", x.lay(0, 1), 4);
        due("WEIGHTS", x.acts(0, 2), 39);
        x.paint(1, GREATEST, GREATEST, 2);
        due("lay of a LINE of two RANGES", x.lay(0, 1), 5);
        due("WEIGHTS", x.acts(0, 2), 40);
        CHECK.yes("meet of 1 is refused on 40", isFull(x, y -> y.meet(0, 1)));
        CHECK.yes("isSound()", x.isSound());
    }

    // ---- taking back; promises 12 to 15

    private static void undoAndAgain() {
        about("2: UNDO takes the last ACT out of the row");
        Paintedline x = new Paintedline();
        x.paint(0, 0, 9, 1);
        x.shift(0, 5);
        x.dye(0, 1, 2);
        due("undo", x.undo(0), 3);
        textIs(x, 0, BLANK + " 5=1 15=0");
        due("undo", x.undo(0), 2);
        textIs(x, 0, BLANK + " 0=1 10=0");
        due("undo", x.undo(0), 1);
        textIs(x, 0, BLANK);
        due("ACTS", x.acts(0, 0), 0);
        due("TAKEN", x.acts(0, 1), 3);
        CHECK.badState(x, "undo of none", () -> x.undo(0));

        about("2: AGAIN takes the last one out of TAKEN");
        due("again", x.again(0), 1);
        due("again", x.again(0), 2);
        textIs(x, 0, BLANK + " 5=1 15=0");
        due("TAKEN", x.acts(0, 1), 1);
        due("undo", x.undo(0), 2);
        due("again", x.again(0), 2);
        due("again", x.again(0), 3);
        textIs(x, 0, BLANK + " 5=2 15=0");
        CHECK.badState(x, "again of none", () -> x.again(0));

        about("2: UNDO of what was lost by the ACT brings it back");
        x.shift(0, GREATEST);
        x.shift(0, LEAST);
        textIs(x, 0, BLANK);
        x.undo(0);
        x.undo(0);
        textIs(x, 0, BLANK + " 5=2 15=0");
        x.cut(0, LEAST, GREATEST);
        x.undo(0);
        textIs(x, 0, BLANK + " 5=2 15=0");

        about("12 and 13: UNDO and AGAIN leave the other LINES");
        x.paint(1, 0, 0, 1);
        x.undo(1);
        due("undo", x.undo(0), 3);
        due("TAKEN of 1", x.acts(1, 1), 1);
        due("again", x.again(1), 1);
        due("TAKEN of 0", x.acts(0, 1), 2);
        due("again", x.again(0), 3);
    }

    private static void againOnFullLines() {
        about("2: AGAIN up to 16 ACTS");
        Paintedline x = new Paintedline();
        for (int i = 0; i < 16; i++) {
            x.paint(0, 2 * i, 2 * i, 1 + i % 7);
        }
        String was = x.text(0);
        for (int i = 16; i >= 1; i--) {
            due("undo", x.undo(0), i);
        }
        textIs(x, 0, BLANK);
        due("TAKEN", x.acts(0, 1), 16);
        for (int i = 1; i <= 16; i++) {
            due("again", x.again(0), i);
        }
        textIs(x, 0, was);
        due("ACTS", x.acts(0, 0), 16);

        about("2: AGAIN up to the WEIGHT 40");
        Paintedline y = weighing(20);
        y.lay(0, 1);
        due("WEIGHTS", y.acts(0, 2), 40);
        y.undo(0);
        y.undo(0);
        due("again", y.again(0), 1);
        due("again", y.again(0), 2);
        due("WEIGHTS", y.acts(0, 2), 40);

        about("2: AGAIN as it was told, not as the other LINE weighs now");
        Paintedline z = new Paintedline();
        z.paint(1, 0, 0, 1);
        z.lay(0, 1);
        z.undo(0);
        for (int i = 1; i < 16; i++) {
            z.paint(1, 2 * i, 2 * i, 1);
        }
        due("again", z.again(0), 1);
        due("WEIGHT", z.act(0, 0, 2), 2);
        textIs(z, 0, BLANK + " 0=1 1=0");
    }

    private static void takenIsEmptied() {
        about("2: TAKEN is emptied by each new ACT, by each ACT that is TAKEN OUT and by washing");
        Deed[] deeds = {
            x -> x.paint(0, 0, 0, 1), x -> x.cut(0, 0, 0), x -> x.fill(0, 0, 1), x -> x.allot(0, 1, 1),
            x -> x.peel(0, 0), x -> x.shift(0, 1), x -> x.mirror(0), x -> x.dye(0, 1, 2), x -> x.lay(0, 1),
            x -> x.meet(0, 1), x -> x.takeOut(0, 1), x -> x.wash(0)};
        for (int i = 0; i < deeds.length; i++) {
            Paintedline x = withTaken();
            due("TAKEN ahead of deed " + i, x.acts(0, 1), 1);
            deeds[i].on(x);
            due("TAKEN behind deed " + i, x.acts(0, 1), 0);
            String was = x.text(0);
            CHECK.badState(x, "again behind deed " + i, () -> x.again(0));
            textIs(x, 0, was);
        }
    }

    private static void takenStays() {
        about("2: by nothing else, and not by what is done to another LINE");
        Deed[] deeds = {
            x -> x.paint(1, 0, 0, 1), x -> x.lay(1, 0), x -> x.meet(2, 0), x -> x.wash(1), x -> x.takeOut(1, 1),
            x -> x.undo(1), x -> x.frame(0, 3, 4), x -> x.blot(0, 3, 4), x -> x.knock(), x -> x.wouldBe(0, 0, 9, 1),
            x -> x.without(0, 1, 2), x -> x.isSound(), x -> x.digest()};
        for (int i = 0; i < deeds.length; i++) {
            Paintedline x = withTaken();
            deeds[i].on(x);
            due("TAKEN behind deed " + i, x.acts(0, 1), 1);
            due("again behind deed " + i, x.again(0), 2);
            textIs(x, 0, BLANK + " 0=3 10=0 20=4 30=0");
        }
        about("2: an UNDO puts one more at the end of TAKEN");
        Paintedline x = withTaken();
        x.undo(0);
        due("TAKEN", x.acts(0, 1), 2);
        due("again", x.again(0), 1);
        due("again", x.again(0), 2);
    }

    /** -15 to -6 are 1, -5 to -1 are 2, by four ACTS of which each matters. */
    private static Paintedline fourActs() {
        Paintedline x = new Paintedline();
        x.paint(0, 0, 9, 1);
        x.shift(0, 5);
        x.paint(0, 0, 4, 2);
        x.mirror(0);
        textIs(x, 0, BLANK + " -15=1 -5=2 0=0");
        return x;
    }

    private static void takenOut() {
        about("14: an ACT is TAKEN OUT wherever it stands in the row");
        int[] points = {10, 5, 5, 30};
        String[] left = {" -5=2 0=0", " -10=1 -5=2 0=0", " -15=1 -5=0", " 0=2 5=1 15=0"};
        for (int number = 1; number <= 4; number++) {
            Paintedline x = fourActs();
            due("without " + number, x.without(0, number, 1), points[number - 1]);
            due("takeOut of " + number, x.takeOut(0, number), points[number - 1]);
            textIs(x, 0, BLANK + left[number - 1]);
            due("ACTS", x.acts(0, 0), 3);
            int next = 0;
            for (int n = 1; n <= 4; n++) {
                if (n != number) {
                    due("NUMBER at place " + next, x.act(0, next, 0), n);
                    next++;
                }
            }
            about("2: it does not go to TAKEN");
            due("TAKEN", x.acts(0, 1), 0);
            CHECK.badState(x, "again", () -> x.again(0));
            int gone = number;
            CHECK.badValue(x, "takeOut once more", () -> x.takeOut(0, gone));
            about("14: an ACT is TAKEN OUT wherever it stands in the row");
        }

        about("14: no ACT of the row has that NUMBER");
        Paintedline x = fourActs();
        x.undo(0);
        x.paint(1, 0, 0, 1);
        for (int number : new int[] {0, 4, 5, -1, LEAST, GREATEST}) {
            CHECK.badValue(x, "takeOut of " + number, () -> x.takeOut(0, number));
        }
        CHECK.badValue(x, "takeOut of a NUMBER of another LINE", () -> x.takeOut(1, 2));
        CHECK.badValue(x, "takeOut on a line without ACTS", () -> x.takeOut(2, 1));
        x.wash(0);
        CHECK.badValue(x, "takeOut of what was washed", () -> x.takeOut(0, 1));
    }

    private static void takenOutAnywhere() {
        about("14: how many POINTS have another COLOUR then than before");
        Paintedline x = new Paintedline();
        x.paint(0, 0, 9, 1);
        x.paint(0, -5, 14, 2);
        due("takeOut of what is hidden", x.takeOut(0, 1), 0);
        x.paint(0, LEAST, GREATEST, 3);
        due("takeOut of all POINTS", x.takeOut(0, 3), ALL);
        textIs(x, 0, BLANK + " -5=2 15=0");
        due("takeOut of the only ACT", x.takeOut(0, 2), 20);
        textIs(x, 0, BLANK);
        due("ACTS", x.acts(0, 0), 0);

        about("14: from a row of 16");
        for (int place = 0; place < 16; place++) {
            Paintedline y = new Paintedline();
            for (int i = 0; i < 16; i++) {
                y.paint(0, 3 * i, 3 * i, 1 + i % 7);
            }
            due("takeOut", y.takeOut(0, place + 1), 1);
            due("what it had painted", y.colour(0, 3 * place), 0);
            due("ACTS", y.acts(0, 0), 15);
            due("the 16th", y.mirror(0), 17);
            due("undo", y.undo(0), 17);
            due("undo", y.undo(0), place == 15 ? 15 : 16);
            CHECK.yes("isSound()", y.isSound());
        }

        about("14: PICTURES stay with their ACTS");
        Paintedline z = new Paintedline();
        z.paint(0, 0, 9, 5);
        z.paint(1, 1, 2, 1);
        z.paint(2, 3, 4, 2);
        z.lay(0, 1);
        z.lay(0, 2);
        z.takeOut(0, 2);
        textIs(z, 0, BLANK + " 0=5 3=2 5=5 10=0");
        z.lay(0, 1);
        z.takeOut(0, 1);
        textIs(z, 0, BLANK + " 1=1 3=2 5=0");
        z.undo(0);
        textIs(z, 0, BLANK + " 3=2 5=0");
    }

    private static void washing() {
        about("15: row and TAKEN are emptied, all POINTS are NONE");
        Paintedline x = fourActs();
        x.undo(0);
        x.paint(1, 0, 0, 1);
        x.undo(1);
        x.frame(0, -3, 3);
        due("wash", x.wash(0), 3);
        textIs(x, 0, BLANK);
        due("ACTS", x.acts(0, 0), 0);
        due("TAKEN", x.acts(0, 1), 0);
        due("WEIGHTS", x.acts(0, 2), 0);
        due("the greatest NUMBER", x.acts(0, 3), 4);
        due("giver", x.giver(0, -3), 0);
        CHECK.badState(x, "undo behind washing", () -> x.undo(0));
        CHECK.badState(x, "again behind washing", () -> x.again(0));
        about("4: washing leaves the FRAME");
        due("from", x.framed(0, 3), -3);
        due("to", x.framed(0, 4), 3);
        about("15: of this LINE alone");
        due("TAKEN of 1", x.acts(1, 1), 1);
        about("15: of an empty row");
        due("wash", x.wash(0), 0);
        due("wash with TAKEN", x.wash(1), 0);
        due("TAKEN", x.acts(1, 1), 0);
        due("wash of what was never told anything", x.wash(2), 0);
        about("15: of a row of 16");
        for (int i = 0; i < 16; i++) {
            x.mirror(2);
        }
        due("wash", x.wash(2), 16);
        due("the next NUMBER", x.mirror(2), 17);
    }

    // ---- promises 4 to 6

    private static void fills() {
        about("4: from BEGIN to END of the RANGE that the POINT is in");
        for (int point : new int[] {5, 7, 9}) {
            Paintedline x = new Paintedline();
            x.paint(0, 0, 4, 1);
            x.paint(0, 5, 9, 2);
            due("fill", x.fill(0, point, 3), 3);
            textIs(x, 0, BLANK + " 0=1 5=3 10=0");
            due("first POINT", x.act(0, 2, 3), 5);
            due("last POINT", x.act(0, 2, 4), 9);
            due("COLOUR", x.act(0, 2, 5), 3);
            due("KIND", x.act(0, 2, 1), 1);
            due("WEIGHT", x.act(0, 2, 2), 2);
        }
        about("4: of the first and the last RANGE");
        Paintedline x = new Paintedline();
        x.paint(0, 0, 0, 1);
        x.fill(0, LEAST, 2);
        textIs(x, 0, "-2147483648=2 0=1 1=0");
        x.fill(0, GREATEST, 3);
        textIs(x, 0, "-2147483648=2 0=1 1=3");
        due("first POINT", x.act(0, 2, 3), 1);
        due("last POINT", x.act(0, 2, 4), GREATEST);
        about("4: of one POINT, and with the COLOUR of a neighbour");
        x.fill(0, 0, 3);
        textIs(x, 0, "-2147483648=2 0=3");
        about("4: with the COLOUR 0: NONE");
        x.fill(0, -1, 0);
        textIs(x, 0, BLANK + " 0=3");
        about("4: of all POINTS");
        Paintedline y = new Paintedline();
        y.fill(0, 0, 7);
        textIs(y, 0, "-2147483648=7");
        about("4: what it told stays when the RANGE is another");
        y.paint(0, 0, 0, 1);
        y.takeOut(0, 1);
        textIs(y, 0, BLANK + " 0=1 1=0");
    }

    private static void allots() {
        about("5: the first RANGE of NONE with that LENGTH or more");
        Paintedline x = new Paintedline();
        x.fill(0, 0, 7);
        x.cut(0, 0, 1);
        x.cut(0, 10, 14);
        x.cut(0, 20, 24);
        due("allot of the LENGTH of a RANGE", x.allot(0, 5, 1), 10);
        textIs(x, 0, "-2147483648=7 0=0 2=7 10=1 15=7 20=0 25=7");
        due("allot of one less", x.allot(0, 4, 1), 20);
        textIs(x, 0, "-2147483648=7 0=0 2=7 10=1 15=7 20=1 24=0 25=7");
        due("first POINT", x.act(0, 5, 3), 20);
        due("last POINT", x.act(0, 5, 4), 23);
        due("allot of 1", x.allot(0, 1, 2), 0);
        due("allot of 1", x.allot(0, 1, 2), 1);
        due("allot of 1", x.allot(0, 1, 2), 24);
        due("allot of 1 if all is painted", x.allot(0, 1, 2), NOWHERE);
        about("5: one more than the longest");
        x.cut(0, 0, 2);
        due("allot", x.allot(0, 4, 1), NOWHERE);
        due("allot", x.allot(0, 3, 1), 0);

        about("5: RANGES that are longer than an int tells");
        Paintedline y = new Paintedline();
        due("allot of 2147483647", y.allot(0, GREATEST, 1), LEAST);
        textIs(y, 0, "-2147483648=1 -1=0");
        due("allot of 2147483647", y.allot(0, GREATEST, 1), -1);
        textIs(y, 0, "-2147483648=1 2147483646=0");
        due("allot of 3", y.allot(0, 3, 1), NOWHERE);
        due("allot to GREATEST", y.allot(0, 2, 1), 2147483646);
        textIs(y, 0, "-2147483648=1");
        due("allot of 1 on a new line", y.allot(1, 1, 1), LEAST);
        textIs(y, 1, "-2147483648=1 -2147483647=0");
    }

    private static void peels() {
        about("6: the first RANGE that is not NONE, the last one");
        Paintedline x = new Paintedline();
        x.paint(0, 0, 4, 1);
        x.paint(0, 5, 9, 2);
        x.paint(0, 20, 20, 3);
        due("peel 0", x.peel(0, 0), 1);
        textIs(x, 0, BLANK + " 5=2 10=0 20=3 21=0");
        due("peel 1", x.peel(0, 1), 3);
        textIs(x, 0, BLANK + " 5=2 10=0");
        due("first POINT", x.act(0, 4, 3), 20);
        due("last POINT", x.act(0, 4, 4), 20);
        due("COLOUR", x.act(0, 4, 5), 0);
        due("KIND", x.act(0, 4, 1), 1);
        about("6: the only one is the first and the last");
        due("peel 1", x.peel(0, 1), 2);
        x.undo(0);
        due("peel 0", x.peel(0, 0), 2);
        textIs(x, 0, BLANK);
        about("6: 0 if all is NONE");
        due("peel 0", x.peel(0, 0), 0);
        due("peel 1", x.peel(0, 1), 0);
        due("ACTS", x.acts(0, 0), 6);
        about("6: at LEAST and at GREATEST");
        Paintedline y = new Paintedline();
        y.paint(0, LEAST, 0, 1);
        y.paint(0, 9, GREATEST, 2);
        due("peel 0", y.peel(0, 0), 1);
        textIs(y, 0, BLANK + " 9=2");
        due("peel 1", y.peel(0, 1), 2);
        textIs(y, 0, BLANK);
        y.fill(0, 0, 5);
        due("peel of all POINTS", y.peel(0, 1), 5);
        textIs(y, 0, BLANK);
    }

    // ---- section 4, promises 16 to 18

    private static void frames() {
        about("16: how many BEGINS lie in it");
        Paintedline x = new Paintedline();
        x.paint(0, 0, 4, 1);
        x.paint(0, 5, 9, 2);
        due("from LEAST to GREATEST", x.frame(0, LEAST, GREATEST), 4);
        due("from BEGIN to BEGIN", x.frame(0, 0, 10), 3);
        due("one more on both sides", x.frame(0, 1, 9), 1);
        due("of one POINT", x.frame(0, 5, 5), 1);
        due("of one POINT that is no BEGIN", x.frame(0, 6, 6), 0);
        due("of LEAST", x.frame(0, LEAST, LEAST), 1);
        due("of GREATEST", x.frame(0, GREATEST, GREATEST), 0);
        x.paint(0, GREATEST, GREATEST, 1);
        due("of GREATEST, painted", x.frame(0, GREATEST, GREATEST), 1);
        due("framed 3", x.framed(0, 3), GREATEST);
        due("framed 4", x.framed(0, 4), GREATEST);
        about("16: refused, the FRAME stays");
        CHECK.badValue(x, "frame", () -> x.frame(0, 1, 0));
        due("framed 3", x.framed(0, 3), GREATEST);
        about("4: each LINE has a FRAME");
        x.frame(1, 3, 4);
        due("framed 3 of 0", x.framed(0, 3), GREATEST);
        due("framed 3 of 1", x.framed(1, 3), 3);
        due("framed 4 of 2", x.framed(2, 4), GREATEST);
        about("4: it changes nothing");
        textIs(x, 0, BLANK + " 0=1 5=2 10=0 2147483647=1");
        due("ACTS", x.acts(0, 0), 3);
        due("count", x.count(0, LEAST, GREATEST, 1), 6);
    }

    private static void blotsAndKnocks() {
        about("17: REFUSED always");
        Paintedline x = new Paintedline();
        x.paint(0, 0, 9, 1);
        due("blot", x.blot(0, 5, 2), -9);
        due("blot with the COLOUR that it has", x.blot(0, 5, 1), -9);
        due("blot with NONE", x.blot(0, LEAST, 0), -9);
        due("blot of LINE 2", x.blot(2, GREATEST, 7), -9);
        textIs(x, 0, BLANK + " 0=1 10=0");
        textIs(x, 2, BLANK);
        about("17: BLOTS of all LINES are counted");
        due("BLOTS", x.tried(1), 4);
        about("17: a BLOT that throws is not counted");
        CHECK.badValue(x, "blot of 8", () -> x.blot(0, 5, 8));
        CHECK.badLine(x, "blot of no LINE", () -> x.blot(3, 5, 8));
        due("BLOTS", x.tried(1), 4);
        about("17: on a FULL line");
        due("blot", weighing(40).blot(0, 0, 1), -9);
        about("18: how many KNOCKS there were ever, with this");
        due("knock", x.knock(), 1);
        due("knock", x.knock(), 2);
        x.wash(0);
        x.paint(2, 0, 0, 1);
        x.undo(2);
        due("knock", x.knock(), 3);
        due("KNOCKS", x.tried(0), 3);
        due("BLOTS", x.tried(1), 4);
    }

    /** "An object is used for at most 512 calls": the last of them is answered as the first. */
    private static void manyCalls() {
        about("an object is used for 512 calls");
        Paintedline x = new Paintedline();
        for (int i = 0; i < 250; i++) {
            due("paint", x.paint(0, i, i, 1 + i % 7), i + 1);
            due("takeOut", x.takeOut(0, i + 1), 1);
        }
        due("the 501st call", x.paint(0, 0, 0, 1), 251);
        due("the 502nd call", x.giver(0, 0), 251);
        due("the 503rd call", x.under(0, 0, 1), 0);
        due("the 504th call", x.acts(0, 3), 251);
        CHECK.due("the 505th call", x.text(0), BLANK + " 0=1 1=0");
        CHECK.yes("the 506th call", x.isSound());

        Paintedline y = new Paintedline();
        for (int i = 1; i <= 512; i++) {
            due("knock", y.knock(), i);
        }
    }

    private EdgeActTest() {
    }
}

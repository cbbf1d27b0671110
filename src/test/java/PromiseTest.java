/** Promise by promise: ordinary inputs, the edges that the document names, and wrong inputs. */
final class PromiseTest {
    private static final int LEAST = Integer.MIN_VALUE;
    private static final int GREATEST = Integer.MAX_VALUE;
    private static final long NOWHERE = 2147483648L;
    private static final long ALL = 4294967296L;

    private static final Check CHECK = new Check();

    public static void main(String[] args) {
        paintsAndCuts();
        shiftsMirrorsAndDyes();
        laysAndMeets();
        takesBack();
        framesAndTries();
        asksForPoints();
        asksForRanges();
        asksBetweenLines();
        asksForActs();
        asksWhatWouldBe();
        asksForDigest();
        CHECK.end();
    }

    private static void due(String call, long got, long want) {
        CHECK.due(call, got, want);
    }

    private static void textIs(Paintedline x, int line, String want) {
        CHECK.due("text(" + line + ")", x.text(line), want);
    }

    /** "-2147483648=0 0=1 5=2 7=0 9=2 15=0" on the line 0. */
    private static Paintedline painted() {
        Paintedline x = new Paintedline();
        x.paint(0, 0, 9, 1);
        x.paint(0, 5, 14, 2);
        x.cut(0, 7, 8);
        return x;
    }

    private static void paintsAndCuts() {
        newObject();
        paint();
        cut();
        fill();
        allot();
        peel();
        full();
    }

    private static void newObject() {
        Paintedline x = new Paintedline();
        for (int line = 0; line <= 2; line++) {
            textIs(x, line, "-2147483648=0");
            due("length", x.length(line, 0), ALL);
            due("acts 0", x.acts(line, 0), 0);
            due("acts 1", x.acts(line, 1), 0);
            due("acts 2", x.acts(line, 2), 0);
            due("acts 3", x.acts(line, 3), 0);
            due("framed 3", x.framed(line, 3), LEAST);
            due("framed 4", x.framed(line, 4), GREATEST);
        }
        due("tried 0", x.tried(0), 0);
        due("tried 1", x.tried(1), 0);
    }

    private static void paint() {
        Paintedline x = new Paintedline();
        due("paint", x.paint(0, 0, 9, 1), 1);
        due("paint", x.paint(0, 5, 14, 2), 2);
        due("paint of another line", x.paint(1, 5, 5, 7), 1);
        textIs(x, 0, "-2147483648=0 0=1 5=2 15=0");
        textIs(x, 1, "-2147483648=0 5=7 6=0");
        x.paint(0, 3, 4, 2);
        textIs(x, 0, "-2147483648=0 0=1 3=2 15=0");
        x.paint(0, 15, 16, 2);
        textIs(x, 0, "-2147483648=0 0=1 3=2 17=0");
        x.paint(0, LEAST, -1, 1);
        textIs(x, 0, "-2147483648=1 3=2 17=0");
        x.paint(0, 17, GREATEST, 3);
        textIs(x, 0, "-2147483648=1 3=2 17=3");
        x.paint(0, LEAST, GREATEST, 4);
        textIs(x, 0, "-2147483648=4");
        x.paint(0, LEAST, LEAST, 1);
        x.paint(0, GREATEST, GREATEST, 2);
        textIs(x, 0, "-2147483648=1 -2147483647=4 2147483647=2");
        CHECK.badLine(x, "paint(-1,..)", () -> x.paint(-1, 1, 0, 9));
        CHECK.badLine(x, "paint(3,..)", () -> x.paint(3, 0, 0, 1));
        CHECK.badValue(x, "paint from above to", () -> x.paint(0, 1, 0, 1));
        CHECK.badValue(x, "paint of 0", () -> x.paint(0, 0, 0, 0));
        CHECK.badValue(x, "paint of 8", () -> x.paint(0, 0, 0, 8));
        CHECK.badValue(x, "paint of -1", () -> x.paint(0, 0, 0, -1));
    }

    private static void cut() {
        Paintedline x = new Paintedline();
        x.paint(0, -5, 5, 3);
        due("cut", x.cut(0, 0, 0), 2);
        textIs(x, 0, "-2147483648=0 -5=3 0=0 1=3 6=0");
        due("cut", x.cut(0, -5, GREATEST), 3);
        textIs(x, 0, "-2147483648=0");
        due("kind of a cut", x.act(0, 1, 1), 1);
        due("weight of a cut", x.act(0, 1, 2), 2);
        due("colour of a cut", x.act(0, 1, 5), 0);
        due("cut of nothing", x.cut(0, LEAST, GREATEST), 4);
        CHECK.badLine(x, "cut(3,..)", () -> x.cut(3, 1, 0));
        CHECK.badValue(x, "cut from above to", () -> x.cut(0, 1, 0));
    }

    private static void fill() {
        Paintedline x = painted();
        due("fill", x.fill(0, 8, 5), 4);
        textIs(x, 0, "-2147483648=0 0=1 5=2 7=5 9=2 15=0");
        due("act 3", x.act(0, 3, 3), 7);
        due("act 4", x.act(0, 3, 4), 8);
        due("act 5", x.act(0, 3, 5), 5);
        x.fill(0, GREATEST, 6);
        textIs(x, 0, "-2147483648=0 0=1 5=2 7=5 9=2 15=6");
        x.fill(0, 0, 2);
        textIs(x, 0, "-2147483648=0 0=2 7=5 9=2 15=6");
        due("fill with NONE", x.fill(0, 14, 0), 7);
        textIs(x, 0, "-2147483648=0 0=2 7=5 9=0 15=6");
        x.fill(0, LEAST, 7);
        textIs(x, 0, "-2147483648=7 0=2 7=5 9=0 15=6");
        Paintedline y = new Paintedline();
        y.fill(2, 0, 1);
        textIs(y, 2, "-2147483648=1");
        CHECK.badLine(x, "fill(-1,..)", () -> x.fill(-1, 0, 8));
        CHECK.badValue(x, "fill of 8", () -> x.fill(0, 0, 8));
        CHECK.badValue(x, "fill of -1", () -> x.fill(0, 0, -1));
    }

    private static void allot() {
        Paintedline x = painted();
        x.fill(0, LEAST, 3);
        due("allot 2", x.allot(0, 2, 4), 7);
        textIs(x, 0, "-2147483648=3 0=1 5=2 7=4 9=2 15=0");
        x.undo(0);
        due("allot 1", x.allot(0, 1, 4), 7);
        textIs(x, 0, "-2147483648=3 0=1 5=2 7=4 8=0 9=2 15=0");
        due("allot 3", x.allot(0, 3, 5), 15);
        textIs(x, 0, "-2147483648=3 0=1 5=2 7=4 8=0 9=2 15=5 18=0");
        due("NUMBERS stay", x.acts(0, 3), 7);
        x.undo(0);
        due("allot to the end", x.allot(0, GREATEST - 14, 6), 15);
        textIs(x, 0, "-2147483648=3 0=1 5=2 7=4 8=0 9=2 15=6");
        x.undo(0);
        due("nowhere", x.allot(0, GREATEST - 13, 6), NOWHERE);
        due("no act by nowhere", x.acts(0, 0), 5);
        due("TAKEN stays by nowhere", x.acts(0, 1), 1);
        due("the greatest NUMBER stays by nowhere", x.acts(0, 3), 8);
        Paintedline y = new Paintedline();
        due("allot from LEAST", y.allot(1, GREATEST, 1), LEAST);
        textIs(y, 1, "-2147483648=1 -1=0");
        CHECK.badLine(x, "allot(3,..)", () -> x.allot(3, 0, 0));
        CHECK.badValue(x, "allot of length 0", () -> x.allot(0, 0, 1));
        CHECK.badValue(x, "allot of length -1", () -> x.allot(0, LEAST, 1));
        CHECK.badValue(x, "allot of 0", () -> x.allot(0, 1, 0));
        CHECK.badValue(x, "allot of 8", () -> x.allot(0, 1, 8));
    }

    private static void peel() {
        Paintedline x = painted();
        due("peel 0", x.peel(0, 0), 1);
        textIs(x, 0, "-2147483648=0 5=2 7=0 9=2 15=0");
        due("peel 1", x.peel(0, 1), 2);
        textIs(x, 0, "-2147483648=0 5=2 7=0");
        due("NUMBERS of peels", x.acts(0, 3), 5);
        due("act 3", x.act(0, 4, 3), 9);
        due("act 4", x.act(0, 4, 4), 14);
        x.peel(0, 1);
        x.undo(0);
        x.undo(0);
        x.undo(0);
        x.wash(0);
        x.paint(0, 3, 3, 6);
        x.undo(0);
        due("peel of nothing", x.peel(0, 0), 0);
        due("peel of nothing", x.peel(0, 1), 0);
        due("no act by peel of nothing", x.acts(0, 0), 0);
        due("TAKEN stays by peel of nothing", x.acts(0, 1), 1);
        x.paint(0, LEAST, GREATEST, 7);
        due("peel of all", x.peel(0, 1), 7);
        textIs(x, 0, "-2147483648=0");
        CHECK.badLine(x, "peel(-1,..)", () -> x.peel(-1, 2));
        CHECK.badValue(x, "peel of side 2", () -> x.peel(0, 2));
        CHECK.badValue(x, "peel of side -1", () -> x.peel(0, -1));
    }

    private static void full() {
        Paintedline byCount = new Paintedline();
        for (int i = 0; i < 16; i++) {
            byCount.mirror(0);
        }
        CHECK.badState(byCount, "mirror when full", () -> byCount.mirror(0));
        CHECK.badState(byCount, "dye when full", () -> byCount.dye(0, 1, 1));
        CHECK.badState(byCount, "shift when full", () -> byCount.shift(0, 0));
        CHECK.badState(byCount, "paint when full", () -> byCount.paint(0, 0, 0, 1));
        CHECK.badState(byCount, "cut when full", () -> byCount.cut(0, 0, 0));
        CHECK.badState(byCount, "fill when full", () -> byCount.fill(0, 0, 0));
        CHECK.badState(byCount, "allot when full", () -> byCount.allot(0, 1, 1));
        CHECK.badState(byCount, "peel of nothing when full", () -> byCount.peel(0, 0));
        CHECK.badState(byCount, "lay of weight 0 when full", () -> byCount.lay(0, 1));
        CHECK.badState(byCount, "meet of weight 0 when full", () -> byCount.meet(0, 2));
        CHECK.badValue(byCount, "paint from above to when full", () -> byCount.paint(0, 1, 0, 1));
        CHECK.badLine(byCount, "lay of no line when full", () -> byCount.lay(0, 3));
        due("another line is not full", byCount.mirror(1), 1);
        byCount.undo(0);
        due("mirror in the place undone", byCount.mirror(0), 17);

        Paintedline byWeight = new Paintedline();
        for (int i = 0; i < 10; i++) {
            byWeight.paint(1, 4 * i, 4 * i + 1, 1);
        }
        for (int i = 0; i < 9; i++) {
            byWeight.paint(0, 10 * i, 10 * i, 2);
        }
        byWeight.shift(0, 1);
        byWeight.shift(0, 1);
        byWeight.shift(0, 1);
        CHECK.badState(byWeight, "lay of 20 on 21", () -> byWeight.lay(0, 1));
        CHECK.badState(byWeight, "meet of 20 on 21", () -> byWeight.meet(0, 1));
        byWeight.undo(0);
        due("lay of 20 on 20", byWeight.lay(0, 1), 13);
        due("40", byWeight.acts(0, 2), 40);
        byWeight.undo(0);
        due("meet of 20 on 20", byWeight.meet(0, 1), 14);
        byWeight.undo(0);
        byWeight.undo(0);
        byWeight.undo(0);
        due("weights of line 0", byWeight.acts(0, 2), 18);
        due("lay of 20 on 18", byWeight.lay(0, 1), 15);
        due("38", byWeight.acts(0, 2), 38);
        byWeight.shift(0, 0);
        CHECK.badState(byWeight, "paint on 39", () -> byWeight.paint(0, 0, 0, 1));
        CHECK.badState(byWeight, "cut on 39", () -> byWeight.cut(0, 0, 0));
        CHECK.badState(byWeight, "fill on 39", () -> byWeight.fill(0, 0, 0));
        CHECK.badState(byWeight, "allot on 39", () -> byWeight.allot(0, 1, 1));
        CHECK.badState(byWeight, "allot of nowhere on 39", () -> byWeight.allot(0, GREATEST, 1));
        CHECK.badState(byWeight, "peel on 39", () -> byWeight.peel(0, 1));
        CHECK.badState(byWeight, "meet of 20 on 39", () -> byWeight.meet(0, 1));
        due("shift on 39", byWeight.shift(0, 0), 0);
        due("40", byWeight.acts(0, 2), 40);
        CHECK.badState(byWeight, "shift on 40", () -> byWeight.shift(0, 0));
        due("lay of weight 0 on 40", byWeight.lay(0, 2), 18);
        due("mirror on 40", byWeight.mirror(0), 19);
        due("dye on 40", byWeight.dye(0, 5, 6), 0);
        byWeight.undo(0);
        byWeight.undo(0);
        byWeight.undo(0);
        byWeight.undo(0);
        byWeight.undo(0);
        due("paint on 38", byWeight.paint(0, 0, 0, 1), 21);
    }

    private static void shiftsMirrorsAndDyes() {
        shift();
        mirror();
        dye();
    }

    private static void shift() {
        Paintedline x = new Paintedline();
        x.paint(0, 0, 9, 1);
        due("shift to GREATEST", x.shift(0, 5), 0);
        textIs(x, 0, "-2147483648=0 5=1 15=0");
        due("shift to LEAST", x.shift(0, -10), 0);
        textIs(x, 0, "-2147483648=0 -5=1 5=0");
        due("shift by 0", x.shift(0, 0), 0);
        textIs(x, 0, "-2147483648=0 -5=1 5=0");
        due("shift by LEAST", x.shift(0, LEAST), 5);
        textIs(x, 0, "-2147483648=1 -2147483643=0");
        due("shift by GREATEST", x.shift(0, GREATEST), 0);
        textIs(x, 0, "-2147483648=0 -1=1 4=0");
        due("shift by GREATEST, falling", x.shift(0, GREATEST), 3);
        textIs(x, 0, "-2147483648=0 2147483646=1");
        due("all NUMBERS", x.acts(0, 3), 7);
        due("weight", x.act(0, 6, 2), 1);

        Paintedline y = new Paintedline();
        y.paint(0, LEAST, GREATEST, 4);
        due("shift of all", y.shift(0, 1), 1);
        textIs(y, 0, "-2147483648=0 -2147483647=4");
        due("shift of all", y.shift(0, -3), 2);
        textIs(y, 0, "-2147483648=4 2147483645=0");
        due("shift of all by LEAST", y.shift(0, LEAST), 2147483648L);
        textIs(y, 0, "-2147483648=4 -3=0");
        CHECK.badLine(x, "shift(3, 0)", () -> x.shift(3, 0));
        CHECK.badLine(x, "shift(-1, 0)", () -> x.shift(-1, 0));
    }

    private static void mirror() {
        Paintedline x = painted();
        due("mirror", x.mirror(0), 4);
        textIs(x, 0, "-2147483648=0 -15=2 -9=0 -7=2 -5=1 0=0");
        due("mirror again", x.mirror(0), 5);
        textIs(x, 0, "-2147483648=0 0=1 5=2 7=0 9=2 15=0");
        x.paint(0, GREATEST, GREATEST, 7);
        x.mirror(0);
        due("LEAST", x.colour(0, LEAST), 7);
        due("GREATEST", x.colour(0, GREATEST), 0);
        due("weight", x.act(0, 3, 2), 0);
        CHECK.badLine(x, "mirror(3)", () -> x.mirror(3));
    }

    private static void dye() {
        Paintedline x = painted();
        due("dye", x.dye(0, 2, 1), 8);
        textIs(x, 0, "-2147483648=0 0=1 7=0 9=1 15=0");
        due("dye to itself", x.dye(0, 1, 1), 0);
        textIs(x, 0, "-2147483648=0 0=1 7=0 9=1 15=0");
        due("an act that changes nothing", x.acts(0, 0), 5);
        due("giver by a dye to itself", x.giver(0, 0), 5);
        due("dye of no point", x.dye(0, 6, 3), 0);
        due("dye of NONE", x.dye(0, 0, 1), ALL - 13);
        textIs(x, 0, "-2147483648=1");
        due("dye to NONE", x.dye(0, 1, 0), ALL);
        textIs(x, 0, "-2147483648=0");
        CHECK.badLine(x, "dye(3,..)", () -> x.dye(3, 8, 8));
        CHECK.badValue(x, "dye of 8", () -> x.dye(0, 8, 0));
        CHECK.badValue(x, "dye of -1", () -> x.dye(0, -1, 0));
        CHECK.badValue(x, "dye to 8", () -> x.dye(0, 0, 8));
        CHECK.badValue(x, "dye to -1", () -> x.dye(0, 0, -1));
    }

    private static void laysAndMeets() {
        Paintedline x = painted();
        x.paint(1, 3, 6, 2);
        x.paint(1, 20, 21, 3);
        due("lay", x.lay(1, 0), 3);
        textIs(x, 1, "-2147483648=0 0=1 5=2 7=0 9=2 15=0 20=3 22=0");
        due("weight of lay", x.act(1, 2, 2), 5);
        due("line 0 stays", x.acts(0, 0), 3);
        textIs(x, 0, "-2147483648=0 0=1 5=2 7=0 9=2 15=0");
        x.undo(1);
        due("meet", x.meet(1, 0), 4);
        textIs(x, 1, "-2147483648=0 5=2 7=0");
        due("weight of meet", x.act(1, 2, 2), 5);
        due("meet with NONE", x.meet(1, 2), 5);
        textIs(x, 1, "-2147483648=0");
        due("weight of meet with NONE", x.act(1, 3, 2), 0);
        keepsThePicture();
        CHECK.badLine(x, "lay(3, 3)", () -> x.lay(3, 3));
        CHECK.badLine(x, "lay(0, 3)", () -> x.lay(0, 3));
        CHECK.badLine(x, "lay(0, -1)", () -> x.lay(0, -1));
        CHECK.badValue(x, "lay(1, 1)", () -> x.lay(1, 1));
        CHECK.badLine(x, "meet(-1, 0)", () -> x.meet(-1, 0));
        CHECK.badLine(x, "meet(0, 3)", () -> x.meet(0, 3));
        CHECK.badValue(x, "meet(2, 2)", () -> x.meet(2, 2));
    }

    private static void keepsThePicture() {
        Paintedline x = new Paintedline();
        x.paint(0, 0, 9, 1);
        x.paint(1, 5, 9, 1);
        x.lay(2, 0);
        x.meet(2, 1);
        x.wash(0);
        x.paint(0, -9, -1, 3);
        x.fill(1, 5, 6);
        textIs(x, 2, "-2147483648=0 5=1 10=0");
        x.undo(2);
        x.undo(2);
        x.again(2);
        textIs(x, 2, "-2147483648=0 0=1 10=0");
        x.again(2);
        textIs(x, 2, "-2147483648=0 5=1 10=0");
        due("weight as told", x.acts(2, 2), 4);
        x.shift(2, 1);
        due("takeOut of the meet", x.takeOut(2, 2), 5);
        textIs(x, 2, "-2147483648=0 1=1 11=0");
        CHECK.yes("isSound()", x.isSound());
    }

    private static void takesBack() {
        undoAndAgain();
        takeOut();
        wash();
    }

    private static void undoAndAgain() {
        Paintedline x = painted();
        due("undo", x.undo(0), 3);
        textIs(x, 0, "-2147483648=0 0=1 5=2 15=0");
        due("undo", x.undo(0), 2);
        due("undo", x.undo(0), 1);
        textIs(x, 0, "-2147483648=0");
        due("TAKEN", x.acts(0, 1), 3);
        CHECK.badState(x, "undo of nothing", () -> x.undo(0));
        due("again", x.again(0), 1);
        due("again", x.again(0), 2);
        textIs(x, 0, "-2147483648=0 0=1 5=2 15=0");
        due("TAKEN", x.acts(0, 1), 1);
        due("a new act", x.mirror(0), 4);
        due("TAKEN is emptied", x.acts(0, 1), 0);
        CHECK.badState(x, "again of nothing", () -> x.again(0));
        due("number at place 2", x.act(0, 2, 0), 4);
        CHECK.badLine(x, "undo(3)", () -> x.undo(3));
        CHECK.badLine(x, "undo(-1)", () -> x.undo(-1));
        CHECK.badLine(x, "again(3)", () -> x.again(3));
        CHECK.badLine(x, "again(-1)", () -> x.again(-1));

        Paintedline y = new Paintedline();
        for (int i = 0; i < 16; i++) {
            y.paint(0, i * 2, i * 2, 1 + i % 7);
        }
        long was = y.digest();
        for (int i = 16; i >= 1; i--) {
            due("undo of 16", y.undo(0), i);
        }
        for (int i = 1; i <= 16; i++) {
            due("again of 16", y.again(0), i);
        }
        due("digest() after 16 undone and done again", y.digest(), was);
    }

    private static void takeOut() {
        Paintedline x = painted();
        due("takeOut", x.takeOut(0, 2), 8);
        textIs(x, 0, "-2147483648=0 0=1 7=0 9=1 10=0");
        due("acts", x.acts(0, 0), 2);
        due("place 1", x.act(0, 1, 0), 3);
        due("not to TAKEN", x.acts(0, 1), 0);
        CHECK.badValue(x, "takeOut of one gone", () -> x.takeOut(0, 2));
        x.undo(0);
        CHECK.badValue(x, "takeOut of one in TAKEN", () -> x.takeOut(0, 3));
        due("TAKEN stays when refused", x.acts(0, 1), 1);
        due("takeOut of the last", x.takeOut(0, 1), 10);
        due("TAKEN is emptied", x.acts(0, 1), 0);
        textIs(x, 0, "-2147483648=0");
        due("the next NUMBER", x.paint(0, 0, 0, 1), 4);
        due("again a NUMBER", x.cut(0, 3, 3), 5);
        due("takeOut that changes nothing", x.takeOut(0, 5), 0);
        CHECK.badValue(x, "takeOut(0, 0)", () -> x.takeOut(0, 0));
        CHECK.badValue(x, "takeOut(0, 6)", () -> x.takeOut(0, 6));
        CHECK.badLine(x, "takeOut(3,..)", () -> x.takeOut(3, 99));

        Paintedline y = new Paintedline();
        y.paint(0, 0, 9, 1);
        y.shift(0, 10);
        y.dye(0, 1, 2);
        due("takeOut of a shift", y.takeOut(0, 2), 20);
        textIs(y, 0, "-2147483648=0 0=2 10=0");
        due("takeOut of a paint", y.takeOut(0, 1), 10);
        due("a dye is left", y.act(0, 0, 1), 4);
    }

    private static void wash() {
        Paintedline x = painted();
        x.undo(0);
        x.frame(0, 1, 2);
        x.paint(1, 0, 0, 1);
        due("wash", x.wash(0), 2);
        textIs(x, 0, "-2147483648=0");
        textIs(x, 1, "-2147483648=0 0=1 1=0");
        due("acts", x.acts(0, 0), 0);
        due("TAKEN", x.acts(0, 1), 0);
        due("weights", x.acts(0, 2), 0);
        due("the greatest NUMBER stays", x.acts(0, 3), 3);
        due("the FRAME stays", x.framed(0, 3), 1);
        due("the FRAME stays", x.framed(0, 4), 2);
        due("wash again", x.wash(0), 0);
        due("the next NUMBER", x.mirror(0), 4);
        CHECK.badLine(x, "wash(3)", () -> x.wash(3));
        CHECK.badLine(x, "wash(-1)", () -> x.wash(-1));
    }

    private static void framesAndTries() {
        Paintedline x = painted();
        due("frame", x.frame(0, 0, 9), 4);
        due("frame", x.frame(0, 1, 8), 2);
        due("frame of none", x.frame(0, 10, 14), 0);
        due("frame of all", x.frame(0, LEAST, GREATEST), 6);
        due("frame of LEAST", x.frame(0, LEAST, LEAST), 1);
        due("framed 3", x.framed(0, 3), LEAST);
        due("framed 4", x.framed(0, 4), LEAST);
        due("framed 4 of another line", x.framed(1, 4), GREATEST);
        CHECK.badLine(x, "frame(3,..)", () -> x.frame(3, 1, 0));
        CHECK.badValue(x, "frame from above to", () -> x.frame(0, 1, 0));

        due("blot", x.blot(0, 3, 0), -9);
        due("blot", x.blot(2, 3, 7), -9);
        due("blots", x.tried(1), 2);
        due("knocks", x.tried(0), 0);
        textIs(x, 0, "-2147483648=0 0=1 5=2 7=0 9=2 15=0");
        CHECK.badLine(x, "blot(3,..)", () -> x.blot(3, 0, 9));
        CHECK.badValue(x, "blot of 8", () -> x.blot(0, 0, 8));
        CHECK.badValue(x, "blot of -1", () -> x.blot(0, 0, -1));
        due("knock", x.knock(), 1);
        due("knock", x.knock(), 2);
        due("knocks", x.tried(0), 2);
        due("blots", x.tried(1), 2);
        CHECK.badValue(x, "tried(2)", () -> x.tried(2));
        CHECK.badValue(x, "tried(-1)", () -> x.tried(-1));
    }

    private static void asksForPoints() {
        Paintedline x = painted();
        colourBeginEnd(x);
        giver();
        under();
        nextAndBefore(x);
        nearest(x);
    }

    private static void colourBeginEnd(Paintedline x) {
        int[] points = {LEAST, -1, 0, 4, 5, 6, 7, 8, 9, 14, 15, GREATEST};
        int[] colours = {0, 0, 1, 1, 2, 2, 0, 0, 2, 2, 0, 0};
        int[] begins = {LEAST, LEAST, 0, 0, 5, 5, 7, 7, 9, 9, 15, 15};
        int[] ends = {-1, -1, 4, 4, 6, 6, 8, 8, 14, 14, GREATEST, GREATEST};
        for (int i = 0; i < points.length; i++) {
            due("colour of " + points[i], x.colour(0, points[i]), colours[i]);
            due("begin of " + points[i], x.begin(0, points[i]), begins[i]);
            due("end of " + points[i], x.end(0, points[i]), ends[i]);
        }
        for (int line = -1; line <= 3; line += 4) {
            int bad = line;
            CHECK.badLine(x, "colour", () -> x.colour(bad, 0));
            CHECK.badLine(x, "begin", () -> x.begin(bad, 0));
            CHECK.badLine(x, "end", () -> x.end(bad, 0));
            CHECK.badLine(x, "giver", () -> x.giver(bad, 0));
        }
    }

    private static void giver() {
        Paintedline x = painted();
        due("giver of none", x.giver(0, -1), 0);
        due("giver of a paint", x.giver(0, 4), 1);
        due("giver of a later paint", x.giver(0, 5), 2);
        due("giver of a cut", x.giver(0, 8), 3);
        x.mirror(0);
        due("giver behind a mirror", x.giver(0, -1), 1);
        due("giver behind a mirror", x.giver(0, 0), 0);
        x.shift(0, 1);
        due("giver behind a shift", x.giver(0, 0), 1);
        due("giver of what came in", x.giver(0, LEAST), 5);
        x.shift(0, -2);
        due("giver of what came in", x.giver(0, GREATEST), 6);
        due("giver of what came in", x.giver(0, GREATEST - 1), 6);
        due("giver of what fell off", x.giver(0, LEAST), 0);
        x.dye(0, 1, 4);
        due("giver of a dye", x.giver(0, -2), 7);
        due("giver ahead of a dye", x.giver(0, -9), 3);
        x.paint(1, -7, -6, 4);
        x.paint(1, 30, 31, 5);
        x.lay(0, 1);
        due("giver of a lay", x.giver(0, -6), 8);
        due("giver ahead of a lay", x.giver(0, -5), 7);
        x.meet(0, 1);
        due("giver of a meet that leaves", x.giver(0, -6), 8);
        due("giver of a meet that takes", x.giver(0, -5), 9);
        due("giver of a meet of NONE on both", x.giver(0, -9), 3);
        x.cut(0, 30, 30);
        x.undo(1);
        x.paint(1, 30, 31, 6);
        x.meet(0, 1);
        due("giver of a meet that takes what is NONE", x.giver(0, 30), 11);
    }

    private static void under() {
        Paintedline x = painted();
        due("under 0", x.under(0, 7, 0), 0);
        due("under 1", x.under(0, 7, 1), 2);
        due("under 2", x.under(0, 7, 2), 1);
        due("under 3", x.under(0, 7, 3), 0);
        x.shift(0, 3);
        x.dye(0, 2, 6);
        due("under a dye", x.under(0, 8, 0), 6);
        due("under a dye", x.under(0, 8, 1), 2);
        due("under a shift", x.under(0, 8, 2), 0);
        due("under of LEAST", x.under(0, LEAST, 5), 0);
        CHECK.badValue(x, "under 6", () -> x.under(0, 7, 6));
        CHECK.badValue(x, "under -1", () -> x.under(0, 7, -1));
        CHECK.badLine(x, "under(3,..)", () -> x.under(3, 7, -1));
    }

    private static void nextAndBefore(Paintedline x) {
        due("next", x.next(0, 0, 2), 5);
        due("next within", x.next(0, 6, 2), 6);
        due("next behind a gap", x.next(0, 7, 2), 9);
        due("next of NONE", x.next(0, 2, 0), 7);
        due("next of NONE at LEAST", x.next(0, LEAST, 0), LEAST);
        due("next of NONE at GREATEST", x.next(0, GREATEST, 0), GREATEST);
        due("no next", x.next(0, 5, 1), NOWHERE);
        due("no next", x.next(0, LEAST, 7), NOWHERE);
        due("before", x.before(0, 20, 2), 14);
        due("before within", x.before(0, 10, 2), 10);
        due("before a gap", x.before(0, 8, 2), 6);
        due("before of NONE", x.before(0, 14, 0), 8);
        due("before of NONE at LEAST", x.before(0, LEAST, 0), LEAST);
        due("before of NONE at GREATEST", x.before(0, GREATEST, 0), GREATEST);
        due("no before", x.before(0, -1, 1), NOWHERE);
        due("no before", x.before(0, GREATEST, 7), NOWHERE);
        CHECK.badLine(x, "next(3,..)", () -> x.next(3, 0, 8));
        CHECK.badValue(x, "next of 8", () -> x.next(0, 0, 8));
        CHECK.badValue(x, "next of -1", () -> x.next(0, 0, -1));
        CHECK.badLine(x, "before(-1,..)", () -> x.before(-1, 0, 8));
        CHECK.badValue(x, "before of 8", () -> x.before(0, 0, 8));
        CHECK.badValue(x, "before of -1", () -> x.before(0, 0, -1));
    }

    private static void nearest(Paintedline x) {
        due("nearest below", x.nearest(0, 7, 2), 6);
        due("nearest above", x.nearest(0, 8, 2), 9);
        due("nearest itself", x.nearest(0, 10, 2), 10);
        due("nearest below alone", x.nearest(0, GREATEST, 1), 4);
        due("nearest above alone", x.nearest(0, LEAST, 1), 0);
        due("nearest of none", x.nearest(0, 7, 5), NOWHERE);
        Paintedline y = new Paintedline();
        y.paint(0, 0, 0, 1);
        y.paint(0, 4, 4, 1);
        due("of two the smaller", y.nearest(0, 2, 1), 0);
        y.wash(0);
        y.paint(0, LEAST, LEAST, 1);
        y.paint(0, GREATEST, GREATEST, 1);
        due("far apart", y.nearest(0, -1, 1), LEAST);
        due("far apart", y.nearest(0, 0, 1), GREATEST);
        CHECK.badLine(x, "nearest(3,..)", () -> x.nearest(3, 0, 8));
        CHECK.badValue(x, "nearest of 8", () -> x.nearest(0, 0, 8));
        CHECK.badValue(x, "nearest of -1", () -> x.nearest(0, 0, -1));
    }

    private static void asksForRanges() {
        Paintedline x = painted();
        lengthAndRanges(x);
        range(x);
        countAndCovers(x);
        piecesAndWindow(x);
        edge(x);
        framedAndInner(x);
        longest();
        gap(x);
    }

    private static void lengthAndRanges(Paintedline x) {
        due("length of NONE", x.length(0, 0), ALL - 13);
        due("length of 1", x.length(0, 1), 5);
        due("length of 2", x.length(0, 2), 8);
        due("length of 7", x.length(0, 7), 0);
        CHECK.badLine(x, "length(3,..)", () -> x.length(3, 8));
        CHECK.badValue(x, "length of 8", () -> x.length(0, 8));
        CHECK.badValue(x, "length of -1", () -> x.length(0, -1));
        due("ranges", x.ranges(0, -1), 6);
        due("ranges of NONE", x.ranges(0, 0), 3);
        due("ranges of 1", x.ranges(0, 1), 1);
        due("ranges of 2", x.ranges(0, 2), 2);
        due("ranges of 7", x.ranges(0, 7), 0);
        due("ranges of a new line", x.ranges(1, -1), 1);
        CHECK.badLine(x, "ranges(3,..)", () -> x.ranges(3, 8));
        CHECK.badValue(x, "ranges of 8", () -> x.ranges(0, 8));
        CHECK.badValue(x, "ranges of -2", () -> x.ranges(0, -2));
    }

    private static void range(Paintedline x) {
        due("range 0 0", x.range(0, 0, 0), LEAST);
        due("range 0 1", x.range(0, 0, 1), -1);
        due("range 0 2", x.range(0, 0, 2), 0);
        due("range 0 3", x.range(0, 0, 3), 2147483648L);
        due("range 4 0", x.range(0, 4, 0), 9);
        due("range 4 1", x.range(0, 4, 1), 14);
        due("range 4 2", x.range(0, 4, 2), 2);
        due("range 4 3", x.range(0, 4, 3), 6);
        due("range 5 1", x.range(0, 5, 1), GREATEST);
        due("range of a new line", x.range(1, 0, 3), ALL);
        CHECK.badLine(x, "range(3,..)", () -> x.range(3, 0, 9));
        CHECK.badLine(x, "range 6", () -> x.range(0, 6, 9));
        CHECK.badLine(x, "range -1", () -> x.range(0, -1, 0));
        CHECK.badValue(x, "range what 4", () -> x.range(0, 0, 4));
        CHECK.badValue(x, "range what -1", () -> x.range(0, 0, -1));
        CHECK.badLine(x, "text(3)", () -> x.text(3));
        CHECK.badLine(x, "text(-1)", () -> x.text(-1));
    }

    private static void countAndCovers(Paintedline x) {
        due("count", x.count(0, 0, 9, 2), 3);
        due("count within", x.count(0, 10, 12, 2), 3);
        due("count of NONE", x.count(0, -3, 7, 0), 4);
        due("count of all", x.count(0, LEAST, GREATEST, 0), ALL - 13);
        due("count of one point", x.count(0, 4, 4, 1), 1);
        due("count of none", x.count(0, 5, 99, 1), 0);
        CHECK.badLine(x, "count(3,..)", () -> x.count(3, 1, 0, 8));
        CHECK.badValue(x, "count from above to", () -> x.count(0, 1, 0, 1));
        CHECK.badValue(x, "count of 8", () -> x.count(0, 0, 0, 8));
        CHECK.badValue(x, "count of -1", () -> x.count(0, 0, 0, -1));
        CHECK.yes("covers", x.covers(0, 9, 14, 2));
        CHECK.yes("covers of one point", x.covers(0, 5, 5, 2));
        CHECK.no("covers another colour", x.covers(0, 9, 14, 1));
        CHECK.no("covers over a gap", x.covers(0, 6, 9, 2));
        CHECK.no("covers one too many", x.covers(0, 9, 15, 2));
        CHECK.no("covers one too many", x.covers(0, 8, 14, 2));
        CHECK.yes("covers of NONE", x.covers(0, 15, GREATEST, 0));
        CHECK.yes("covers of all", x.covers(1, LEAST, GREATEST, 0));
        CHECK.badLine(x, "covers(3,..)", () -> x.covers(3, 1, 0, 8));
        CHECK.badValue(x, "covers from above to", () -> x.covers(0, 1, 0, 1));
        CHECK.badValue(x, "covers of 8", () -> x.covers(0, 0, 0, 8));
        CHECK.badValue(x, "covers of -1", () -> x.covers(0, 0, 0, -1));
    }

    private static void piecesAndWindow(Paintedline x) {
        due("pieces", x.pieces(0, 0, 9), 4);
        due("pieces", x.pieces(0, 4, 7), 3);
        due("pieces of one point", x.pieces(0, 3, 3), 1);
        due("pieces of all", x.pieces(0, LEAST, GREATEST), 6);
        CHECK.badLine(x, "pieces(3,..)", () -> x.pieces(3, 1, 0));
        CHECK.badValue(x, "pieces from above to", () -> x.pieces(0, 1, 0));
        due("window", x.window(0, 0, 9), 4);
        due("window", x.window(0, 1, 8), 2);
        due("window of none", x.window(0, 10, 14), 0);
        due("window of all", x.window(0, LEAST, GREATEST), 6);
        due("window of one point", x.window(0, 5, 5), 1);
        due("window refused", x.window(0, 9, 0), -9);
        CHECK.badLine(x, "window(3,..)", () -> x.window(3, 1, 0));
    }

    private static void edge(Paintedline x) {
        due("edge first", x.edge(0, 1, 9, 0), 5);
        due("edge last", x.edge(0, 1, 9, 1), 9);
        due("edge at both ends", x.edge(0, 5, 15, 0), 5);
        due("edge at both ends", x.edge(0, 5, 15, 1), 15);
        due("edge of LEAST", x.edge(0, LEAST, -1, 1), LEAST);
        due("no edge", x.edge(0, 1, 4, 0), NOWHERE);
        due("no edge", x.edge(0, 16, GREATEST, 1), NOWHERE);
        CHECK.badLine(x, "edge(3,..)", () -> x.edge(3, 1, 0, 2));
        CHECK.badValue(x, "edge from above to", () -> x.edge(0, 1, 0, 0));
        CHECK.badValue(x, "edge of side 2", () -> x.edge(0, 0, 0, 2));
        CHECK.badValue(x, "edge of side -1", () -> x.edge(0, 0, 0, -1));
    }

    private static void framedAndInner(Paintedline x) {
        due("inner in the first FRAME", x.inner(0, LEAST, GREATEST), 6);
        x.frame(0, 1, 9);
        long[] want = {3, 5, 9, 1, 9, 2};
        for (int what = 0; what <= 5; what++) {
            due("framed " + what, x.framed(0, what), want[what]);
        }
        due("inner", x.inner(0, 1, 9), 3);
        due("inner", x.inner(0, 6, 8), 1);
        due("inner refused", x.inner(0, 8, 6), -9);
        due("inner refused below", x.inner(0, 0, 9), -9);
        due("inner refused above", x.inner(0, 1, 10), -9);
        due("inner refused wholly above", x.inner(0, 10, 11), -9);
        due("inner refused wholly below", x.inner(0, -2, -1), -9);
        x.shift(0, 6);
        due("framed as it is now", x.framed(0, 0), 1);
        due("framed as it is now", x.framed(0, 1), 6);
        x.undo(0);
        x.frame(0, 10, 14);
        due("framed 0 of none", x.framed(0, 0), 0);
        due("framed 1 of none", x.framed(0, 1), NOWHERE);
        due("framed 2 of none", x.framed(0, 2), NOWHERE);
        due("framed 5 of none", x.framed(0, 5), 0);
        x.frame(0, LEAST, GREATEST);
        CHECK.badLine(x, "framed(3,..)", () -> x.framed(3, 6));
        CHECK.badValue(x, "framed 6", () -> x.framed(0, 6));
        CHECK.badValue(x, "framed -1", () -> x.framed(0, -1));
        CHECK.badLine(x, "inner(3,..)", () -> x.inner(3, 1, 0));
    }

    private static void longest() {
        Paintedline x = painted();
        x.paint(0, 20, 24, 7);
        due("longest 0 0", x.longest(0, 0, 0), 9);
        due("longest 0 1", x.longest(0, 0, 1), 14);
        due("longest 0 2", x.longest(0, 0, 2), 2);
        due("longest 0 3", x.longest(0, 0, 3), 6);
        due("longest 1, the first of two", x.longest(0, 1, 0), 0);
        due("longest 2, the second of two", x.longest(0, 2, 0), 20);
        due("longest 3", x.longest(0, 3, 0), 5);
        due("longest 4", x.longest(0, 4, 0), NOWHERE);
        due("longest of GREATEST", x.longest(0, GREATEST, 3), NOWHERE);
        due("longest of none", x.longest(1, 0, 3), NOWHERE);
        x.dye(0, 0, 3);
        due("longest of all", x.longest(0, 0, 3), 2147483648L);
        due("longest of all", x.longest(0, 1, 0), 25);
        CHECK.badLine(x, "longest(3,..)", () -> x.longest(3, -1, 4));
        CHECK.badValue(x, "longest -1", () -> x.longest(0, -1, 0));
        CHECK.badValue(x, "longest what 4", () -> x.longest(0, 0, 4));
        CHECK.badValue(x, "longest what -1", () -> x.longest(0, 0, -1));
    }

    private static void gap(Paintedline x) {
        due("gap", x.gap(0, 1), LEAST);
        x.fill(0, LEAST, 3);
        due("gap 1", x.gap(0, 1), 7);
        due("gap 2", x.gap(0, 2), 7);
        due("gap 3", x.gap(0, 3), 15);
        due("gap to the end", x.gap(0, GREATEST - 14), 15);
        due("no gap", x.gap(0, GREATEST - 13), NOWHERE);
        due("gap of a new line", x.gap(1, GREATEST), LEAST);
        due("no act by a gap", x.acts(0, 0), x.act(0, x.acts(0, 0) - 1, 0) - 1);
        CHECK.badLine(x, "gap(3,..)", () -> x.gap(3, 0));
        CHECK.badValue(x, "gap 0", () -> x.gap(0, 0));
        CHECK.badValue(x, "gap LEAST", () -> x.gap(0, LEAST));
    }

    private static void asksBetweenLines() {
        Paintedline x = painted();
        CHECK.yes("same of one line", x.same(0, 0));
        CHECK.yes("same of two new lines", x.same(1, 2));
        CHECK.no("same", x.same(0, 1));
        due("differ of one line", x.differ(0, 0), 0);
        due("differ", x.differ(0, 1), 13);
        due("meeting of one line", x.meeting(0, 0), 13);
        due("meeting with NONE", x.meeting(0, 1), 0);
        x.paint(1, 0, 14, 2);
        due("differ", x.differ(1, 0), 7);
        due("differ", x.differ(0, 1), 7);
        due("meeting", x.meeting(0, 1), 8);
        due("everywhere of 2", x.everywhere(2), 23);
        due("everywhere of 1", x.everywhere(1), 5);
        due("everywhere of NONE", x.everywhere(0), 3 * ALL - 28);
        due("everywhere of 7", x.everywhere(7), 0);
        x.paint(2, 0, 14, 2);
        CHECK.yes("same by the same paint", x.same(1, 2));
        x.dye(2, 2, 3);
        CHECK.no("same ranges of another colour", x.same(1, 2));
        x.dye(2, 0, 1);
        due("differ in all", x.differ(1, 2), ALL);
        x.dye(1, 0, 1);
        due("meeting at both ends", x.meeting(1, 2), ALL - 15);
        for (int line = -1; line <= 3; line += 4) {
            int bad = line;
            CHECK.badLine(x, "same", () -> x.same(bad, 0));
            CHECK.badLine(x, "same", () -> x.same(0, bad));
            CHECK.badLine(x, "differ", () -> x.differ(bad, 0));
            CHECK.badLine(x, "differ", () -> x.differ(0, bad));
            CHECK.badLine(x, "meeting", () -> x.meeting(bad, 0));
            CHECK.badLine(x, "meeting", () -> x.meeting(0, bad));
        }
        CHECK.badValue(x, "everywhere of 8", () -> x.everywhere(8));
        CHECK.badValue(x, "everywhere of -1", () -> x.everywhere(-1));
    }

    private static void asksForActs() {
        Paintedline x = painted();
        x.shift(0, -3);
        x.mirror(0);
        x.dye(0, 2, 5);
        x.lay(0, 1);
        x.meet(0, 2);
        int[][] want = {
            {1, 1, 2, 0, 9, 1}, {2, 1, 2, 5, 14, 2}, {3, 1, 2, 7, 8, 0}, {4, 2, 1, -3, 0, 0},
            {5, 3, 0, 0, 0, 0}, {6, 4, 0, 2, 5, 0}, {7, 5, 0, 1, 0, 0}, {8, 6, 0, 2, 0, 0},
        };
        for (int place = 0; place < want.length; place++) {
            for (int what = 0; what <= 5; what++) {
                due("act " + place + " " + what, x.act(0, place, what), want[place][what]);
            }
        }
        due("acts 0", x.acts(0, 0), 8);
        due("acts 1", x.acts(0, 1), 0);
        due("acts 2", x.acts(0, 2), 7);
        due("acts 3", x.acts(0, 3), 8);
        x.undo(0);
        x.undo(0);
        due("acts 0", x.acts(0, 0), 6);
        due("acts 1", x.acts(0, 1), 2);
        due("acts 3", x.acts(0, 3), 8);
        x.mirror(0);
        due("an act where another was", x.act(0, 6, 3), 0);
        CHECK.badLine(x, "acts(3,..)", () -> x.acts(3, 4));
        CHECK.badValue(x, "acts 4", () -> x.acts(0, 4));
        CHECK.badValue(x, "acts -1", () -> x.acts(0, -1));
        CHECK.badLine(x, "act(3,..)", () -> x.act(3, 0, 6));
        CHECK.badLine(x, "act place 7", () -> x.act(0, 7, 6));
        CHECK.badLine(x, "act place -1", () -> x.act(0, -1, 0));
        CHECK.badValue(x, "act what 6", () -> x.act(0, 0, 6));
        CHECK.badValue(x, "act what -1", () -> x.act(0, 0, -1));
    }

    private static void asksWhatWouldBe() {
        wouldBe();
        wouldFall();
        without();
        eitherOrder();
    }

    private static void wouldBe() {
        Paintedline x = painted();
        due("wouldBe", x.wouldBe(0, 0, 14, 2), 3);
        due("wouldBe of more", x.wouldBe(0, 2, 3, 3), 8);
        due("wouldBe the same", x.wouldBe(0, 5, 6, 2), 6);
        due("wouldBe of NONE", x.wouldBe(0, LEAST, GREATEST, 0), 1);
        due("wouldBe at LEAST", x.wouldBe(0, LEAST, LEAST, 1), 7);
        due("wouldBe at GREATEST", x.wouldBe(0, GREATEST, GREATEST, 1), 7);
        due("ranges stay", x.ranges(0, -1), 6);
        Paintedline y = mostRanges();
        due("41 ranges", y.ranges(0, -1), 41);
        due("wouldBe of a full line", y.wouldBe(0, 1000, 1000, 1), 43);
        CHECK.yes("isSound of a full line", y.isSound());
        y.frame(0, 1000, 1000);
        CHECK.yes("isSound with a frame of its own", y.isSound());
        CHECK.badLine(x, "wouldBe(3,..)", () -> x.wouldBe(3, 1, 0, 8));
        CHECK.badValue(x, "wouldBe from above to", () -> x.wouldBe(0, 1, 0, 1));
        CHECK.badValue(x, "wouldBe of 8", () -> x.wouldBe(0, 0, 0, 8));
        CHECK.badValue(x, "wouldBe of -1", () -> x.wouldBe(0, 0, 0, -1));
    }

    /** A line of 40 weights, and of as many ranges as there can be. */
    private static Paintedline mostRanges() {
        Paintedline x = new Paintedline();
        for (int i = 0; i < 10; i++) {
            x.paint(0, 4 * i, 4 * i, 1);
            x.paint(1, 4 * i + 2, 4 * i + 2, 2);
        }
        x.lay(0, 1);
        return x;
    }

    private static void wouldFall() {
        Paintedline x = new Paintedline();
        x.paint(0, LEAST, LEAST + 4, 1);
        x.paint(0, GREATEST - 2, GREATEST, 2);
        x.paint(0, -1, 0, 3);
        due("wouldFall 0", x.wouldFall(0, 0), 0);
        due("wouldFall 1", x.wouldFall(0, 1), 1);
        due("wouldFall 9", x.wouldFall(0, 9), 3);
        due("wouldFall -1", x.wouldFall(0, -1), 1);
        due("wouldFall -9", x.wouldFall(0, -9), 5);
        due("wouldFall GREATEST", x.wouldFall(0, GREATEST), 3);
        due("wouldFall GREATEST of 1", x.wouldFall(1, GREATEST), 0);
        due("wouldFall LEAST", x.wouldFall(0, LEAST), 6);
        due("wouldFall LEAST + 1", x.wouldFall(0, LEAST + 1), 5);
        due("acts stay", x.acts(0, 0), 3);
        CHECK.badLine(x, "wouldFall(3,..)", () -> x.wouldFall(3, 0));
        CHECK.badLine(x, "wouldFall(-1,..)", () -> x.wouldFall(-1, 0));
    }

    private static void without() {
        Paintedline x = painted();
        long[][] want = {{5, 5, 8}, {5, 8, 8}, {4, 2, 15}};
        for (int number = 1; number <= 3; number++) {
            for (int what = 0; what <= 2; what++) {
                due("without " + number + " " + what, x.without(0, number, what), want[number - 1][what]);
            }
        }
        textIs(x, 0, "-2147483648=0 0=1 5=2 7=0 9=2 15=0");
        x.undo(0);
        CHECK.badValue(x, "without one in TAKEN", () -> x.without(0, 3, 0));
        CHECK.badValue(x, "without 0", () -> x.without(0, 0, 0));
        CHECK.badValue(x, "without what 3", () -> x.without(0, 1, 3));
        CHECK.badValue(x, "without what -1", () -> x.without(0, 1, -1));
        CHECK.badLine(x, "without(3,..)", () -> x.without(3, 0, 9));
    }

    private static void eitherOrder() {
        Paintedline x = painted();
        CHECK.yes("eitherOrder apart", x.eitherOrder(0, 0, 4, 5, 9));
        CHECK.yes("eitherOrder apart", x.eitherOrder(0, 5, 9, 0, 4));
        CHECK.no("eitherOrder in one point", x.eitherOrder(0, 0, 5, 5, 9));
        CHECK.no("eitherOrder in one point", x.eitherOrder(0, 5, 9, 0, 5));
        CHECK.no("eitherOrder of all", x.eitherOrder(0, LEAST, GREATEST, 3, 3));
        CHECK.yes("eitherOrder at the ends", x.eitherOrder(0, LEAST, LEAST, GREATEST, GREATEST));
        CHECK.badLine(x, "eitherOrder(3,..)", () -> x.eitherOrder(3, 1, 0, 1, 0));
        CHECK.badValue(x, "eitherOrder from above to", () -> x.eitherOrder(0, 1, 0, 0, 0));
        CHECK.badValue(x, "eitherOrder second above last", () -> x.eitherOrder(0, 0, 0, 1, 0));
    }

    private static void asksForDigest() {
        Paintedline x = new Paintedline();
        CHECK.yes("isSound of a new object", x.isSound());
        due("digest of a new object", x.digest(), digestOf(x));
        Paintedline y = painted();
        y.paint(1, -100, 100, 7);
        y.lay(2, 0);
        y.meet(1, 2);
        y.shift(2, LEAST);
        y.undo(0);
        y.frame(2, LEAST, 0);
        y.knock();
        y.blot(0, 0, 0);
        y.blot(1, 0, 0);
        CHECK.yes("isSound", y.isSound());
        due("digest", y.digest(), digestOf(y));
    }

    /** The checksum by the words of promise 52, through the face alone. */
    private static long digestOf(Paintedline x) {
        java.util.List<Long> row = new java.util.ArrayList<>();
        for (int line = 0; line <= 2; line++) {
            row.add((long) x.ranges(line, -1));
            for (int i = 0; i < x.ranges(line, -1); i++) {
                row.add(x.range(line, i, 0));
                row.add(x.range(line, i, 2));
                row.add(x.range(line, i, 3));
            }
            for (int colour = 0; colour <= 7; colour++) {
                row.add(x.length(line, colour));
            }
            for (int what = 0; what <= 3; what++) {
                row.add((long) x.acts(line, what));
            }
            for (int place = 0; place < x.acts(line, 0); place++) {
                for (int what = 0; what <= 5; what++) {
                    row.add((long) x.act(line, place, what));
                }
            }
            row.add((long) x.giver(line, LEAST));
            row.add((long) x.giver(line, 0));
            row.add((long) x.giver(line, GREATEST));
            for (int what = 0; what <= 5; what++) {
                row.add(x.framed(line, what));
            }
            row.add(x.longest(line, 0, 0));
            row.add(x.longest(line, 0, 3));
            row.add(x.gap(line, 1));
            row.add((long) x.text(line).length());
        }
        int[][] pairs = {{0, 1}, {0, 2}, {1, 2}};
        for (int[] pair : pairs) {
            row.add(x.same(pair[0], pair[1]) ? 1L : 0L);
            row.add(x.differ(pair[0], pair[1]));
            row.add(x.meeting(pair[0], pair[1]));
        }
        row.add((long) x.tried(0));
        row.add((long) x.tried(1));
        row.add(x.isSound() ? 1L : 0L);
        long d = 4807;
        for (long v : row) {
            d = d * 31 + v;
        }
        return d;
    }

    private PromiseTest() {
    }
}

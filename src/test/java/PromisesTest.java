/** For each promise of the document: ordinary inputs, its edges, and wrong inputs. */
public final class PromisesTest {
    private static final int BAD = -1, FULL = -2, FINDING = -3, STATE = -4, NONE = -9;
    private static final int NOTHING = 1, BEYOND = 2, UNLIKE = 3, NOUGHT = 4, SIZE = 5;
    private static final int MIN = Integer.MIN_VALUE, MAX = Integer.MAX_VALUE;
    private static final String NINETEEN = "tabba m5031 c5a d6b y4a u3b h2a x4b";

    private static int wrong = 0;
    private static int checks = 0;
    private static int promise = 0;

    private static void due(String what, long got, long want) {
        checks++;
        if (got != want) {
            wrong++;
            System.out.println("promise " + promise + ": " + what + " answered " + got + ", due is " + want);
        }
    }

    /** The call was refused by a FINDING, this one, and it was counted once. */
    private static void refused(String what, HalvedCow x, int before, int got, int which) {
        due(what, got, FINDING);
        due(what + ": finding()", x.finding(), which);
        due(what + ": findings()", x.findings(which), before + 1);
    }

    private static void write(HalvedCow x, int t, String signs) {
        x.text(t, signs.length());
        for (int i = 0; i < signs.length(); i++) {
            x.put(t, i, signs.charAt(i));
        }
    }

    private static HalvedCow with(String signs) {
        HalvedCow x = new HalvedCow();
        write(x, 3, signs);
        x.farms(3);
        return x;
    }

    private static int faultOf(String signs) {
        HalvedCow x = new HalvedCow();
        write(x, 0, signs);
        return x.fault(0);
    }

    private static void layAll(HalvedCow x, int r, int... vs) {
        x.row(r, vs.length);
        for (int i = 0; i < vs.length; i++) {
            x.lay(r, i, vs[i]);
        }
    }

    private static int told(HalvedCow x, int r, int i) {
        x.at(r, i);
        return x.asked();
    }

    private static void partTold(String what, HalvedCow x, int got, long upper, long lower) {
        due(what, got, 1);
        due(what + ": upper()", x.upper(), upper);
        due(what + ": lower()", x.lower(), lower);
    }

    public static void main(String[] args) {
        rowsAndTexts();
        readingFarms();
        deeds();
        turnsAndMilk();
        partings();
        calvesBillsBooks();
        chancesAndLots();
        whatIsTold();
        System.out.println(checks + " checks, " + wrong + " wrong");
        if (wrong != 0) {
            System.exit(1);
        }
    }

    private static void rowsAndTexts() {
        promise = 1;
        HalvedCow x = new HalvedCow();
        for (int what = 0; what <= 9; what++) {
            due("new: count(" + what + ")", x.count(what), what == 5 ? 10000 : 0);
        }
        for (int r = 0; r < 6; r++) {
            due("new: at()", x.at(r, 0), FINDING);
        }
        for (int t = 0; t < 4; t++) {
            due("new: fault()", x.fault(t), FINDING);
        }
        due("new: finding()", x.finding(), NOTHING);
        due("new: turn()", x.turn(0, 0), BAD);

        promise = 2;
        x = new HalvedCow();
        due("row(0, 0)", x.row(0, 0), 0);
        due("row(5, 40)", x.row(5, 40), 40);
        due("row(5, 41)", x.row(5, 41), BAD);
        due("row(6, 1)", x.row(6, 1), BAD);
        due("row(-1, 1)", x.row(-1, 1), BAD);
        due("row(-1, -1)", x.row(-1, -1), BAD);
        due("row(MAX, MIN)", x.row(MAX, MIN), BAD);
        refused("row(5, -1)", x, 0, x.row(5, -1), SIZE);
        refused("row(5, MIN)", x, 1, x.row(5, MIN), SIZE);
        due("row 5 stays", x.at(5, 39), 1);
        layAll(x, 1, 7, 8, 9);
        due("row(1, 4)", x.row(1, 4), 4);
        for (int i = 0; i < 4; i++) {
            due("anew", told(x, 1, i), 0);
        }

        promise = 3;
        x = new HalvedCow();
        refused("lay(2, 0, 1)", x, 0, x.lay(2, 0, 1), NOTHING);
        x.row(2, 3);
        due("lay(2, 2, 7)", x.lay(2, 2, 7), 1);
        due("asked()", x.asked(), 0);
        due("lay(2, 2, MIN)", x.lay(2, 2, MIN), 1);
        due("asked()", x.asked(), 7);
        due("at", told(x, 2, 2), MIN);
        refused("lay(2, 3, 1)", x, 0, x.lay(2, 3, 1), BEYOND);
        refused("lay(2, -1, 1)", x, 1, x.lay(2, -1, 1), BEYOND);
        due("asked() stays", x.asked(), MIN);
        due("lay(6, 0, 1)", x.lay(6, 0, 1), BAD);
        due("lay(-1, 9, 1)", x.lay(-1, 9, 1), BAD);

        promise = 4;
        x = new HalvedCow();
        refused("at(0, 5)", x, 0, x.at(0, 5), NOTHING);
        layAll(x, 0, 4, -5);
        due("at(0, 1)", x.at(0, 1), 1);
        due("asked()", x.asked(), -5);
        due("at(0, 0)", x.at(0, 0), 1);
        due("asked()", x.asked(), 4);
        refused("at(0, 2)", x, 0, x.at(0, 2), BEYOND);
        refused("at(0, MIN)", x, 1, x.at(0, MIN), BEYOND);
        due("at(6, 0)", x.at(6, 0), BAD);
        due("at(-1, 0)", x.at(-1, 0), BAD);

        promise = 5;
        x = new HalvedCow();
        x.row(4, 3);
        due("tear(4)", x.tear(4), 1);
        due("count(7)", x.count(7), 0);
        refused("tear(4)", x, 0, x.tear(4), NOTHING);
        refused("at(4, 0)", x, 1, x.at(4, 0), NOTHING);
        due("tear(6)", x.tear(6), BAD);
        due("tear(-1)", x.tear(-1), BAD);

        copies();

        promise = 7;
        x = new HalvedCow();
        refused("mean(0)", x, 0, x.mean(0), NOTHING);
        x.row(0, 0);
        refused("mean of none", x, 0, x.mean(0), NOUGHT);
        layAll(x, 0, 1, 2, 2);
        due("mean(0)", x.mean(0), 1);
        due("asked()", x.asked(), 1);
        layAll(x, 0, -1, -2, -2);
        due("mean(0)", x.mean(0), 1);
        due("cut towards 0", x.asked(), -1);
        layAll(x, 0, MAX, MAX, MAX - 3);
        due("mean(0)", x.mean(0), 1);
        due("large", x.asked(), MAX - 1);
        layAll(x, 0, MIN, MIN);
        due("mean(0)", x.mean(0), 1);
        due("small", x.asked(), MIN);
        due("mean(6)", x.mean(6), BAD);
        due("mean(-1)", x.mean(-1), BAD);

        promise = 8;
        x = new HalvedCow();
        due("text(0, 0)", x.text(0, 0), 0);
        due("text(3, 60)", x.text(3, 60), 60);
        due("text(3, 61)", x.text(3, 61), BAD);
        due("text(4, 1)", x.text(4, 1), BAD);
        due("text(-1, -1)", x.text(-1, -1), BAD);
        refused("text(3, -1)", x, 0, x.text(3, -1), SIZE);
        due("text 3 stays", x.put(3, 59, 65), 1032);
        due("text(3, 60)", x.text(3, 60), 60);
        due("anew", x.put(3, 59, 66), 1032);

        promise = 9;
        x = new HalvedCow();
        refused("put(1, 0, 1)", x, 0, x.put(1, 0, 1), NOTHING);
        x.text(1, 2);
        due("put(1, 0, 200)", x.put(1, 0, 200), 1032);
        due("put(1, 0, 384)", x.put(1, 0, 384), 1000 - 56);
        due("put(1, 0, -1)", x.put(1, 0, -1), 1000 - 128);
        due("put(1, 0, 127)", x.put(1, 0, 127), 999);
        due("put(1, 0, 0)", x.put(1, 0, 0), 1127);
        due("put(1, 0, 0)", x.put(1, 0, 0), 1000);
        refused("put(1, 2, 1)", x, 0, x.put(1, 2, 1), BEYOND);
        refused("put(1, -1, 1)", x, 1, x.put(1, -1, 1), BEYOND);
        due("put(4, 0, 1)", x.put(4, 0, 1), BAD);
        due("put(-1, 0, 1)", x.put(-1, 0, 1), BAD);
    }

    private static void copies() {
        promise = 6;
        HalvedCow x = new HalvedCow();
        layAll(x, 0, 1, 2, 3, 4, 5);
        due("copy over itself", x.copy(0, 0, 0, 1, 4), 1);
        int[] up = {1, 1, 2, 3, 4};
        for (int i = 0; i < 5; i++) {
            due("moved up", told(x, 0, i), up[i]);
        }
        due("copy over itself", x.copy(0, 2, 0, 0, 3), 1);
        int[] down = {2, 3, 4, 3, 4};
        for (int i = 0; i < 5; i++) {
            due("moved down", told(x, 0, i), down[i]);
        }
        layAll(x, 1, 9, 9, 9);
        due("copy(0, 1, 1, 2, 1)", x.copy(0, 1, 1, 2, 1), 1);
        due("copied", told(x, 1, 2), 3);
        due("left", told(x, 1, 1), 9);
        due("none at the end", x.copy(0, 5, 1, 3, 0), 1);
        refused("from too far", x, 0, x.copy(0, 4, 1, 0, 2), BEYOND);
        refused("to too far", x, 1, x.copy(0, 0, 1, 2, 2), BEYOND);
        refused("none behind the end", x, 2, x.copy(0, 6, 1, 0, 0), BEYOND);
        refused("from below 0", x, 3, x.copy(0, -1, 1, 0, 1), BEYOND);
        refused("to below 0", x, 4, x.copy(0, 0, 1, -1, 1), BEYOND);
        refused("far more", x, 5, x.copy(0, 1, 1, 0, MAX), BEYOND);
        refused("from far", x, 6, x.copy(0, MAX, 1, 0, 1), BEYOND);
        refused("fewer than none", x, 0, x.copy(0, 0, 1, 0, -1), SIZE);
        refused("SIZE ahead of NOTHING", x, 1, x.copy(2, 0, 1, 0, MIN), SIZE);
        refused("from none", x, 0, x.copy(2, 9, 1, 0, 0), NOTHING);
        refused("to none", x, 1, x.copy(1, 0, 2, 0, 0), NOTHING);
        due("copy(6, ..)", x.copy(6, 0, 0, 0, -1), BAD);
        due("copy(.., 6, ..)", x.copy(0, 0, 6, 0, 0), BAD);
        due("copy(-1, ..)", x.copy(-1, 0, 0, 0, 0), BAD);
        due("copy(.., -1, ..)", x.copy(0, 0, -1, 0, 0), BAD);
        due("unchanged", told(x, 1, 0), 9);
    }

    private static void readingFarms() {
        promise = 10;
        due("the least", faultOf("tam0c1a"), NONE);
        due("blanks", faultOf("   tab   m09   x9b   c1a   "), NONE);
        due("the most", faultOf("tabababab m012345 c1ad2by3au4bh5ax6b"), NONE);
        due("nothing", faultOf(""), 0);
        due("blanks alone", faultOf("    "), 4);
        due("no t", faultOf("  m0"), 2);
        due("a capital", faultOf("Tam0c1a"), 0);
        due("a blank behind t", faultOf("t am0c1a"), 1);
        due("t and the end", faultOf("t"), 1);
        due("TURNS and the end", faultOf("tab "), 4);
        due("no TURN", faultOf("tm0c1a"), 1);
        due("no such TURN", faultOf("tac m0c1a"), 2);
        due("a ninth TURN", faultOf("taaaaaaaabm0c1a"), 9);
        due("TURNS apart", faultOf("ta bm0c1a"), 3);
        due("no MILK", faultOf("tamc1a"), 3);
        due("m and the end", faultOf("tam"), 3);
        due("a blank behind m", faultOf("tam 1c1a"), 3);
        due("a seventh MILK", faultOf("tam0000000c1a"), 9);
        due("MILK apart", faultOf("tam1 2c1a"), 5);
        due("MILK and the end", faultOf("tam1  "), 6);
        due("no such KIND", faultOf("tam1a1a"), 4);
        due("a blank behind the letter", faultOf("tam1c 1a"), 5);
        due("WORTH 0", faultOf("tam1c0a"), 5);
        due("a blank behind the WORTH", faultOf("tam1c1 a"), 6);
        due("nobody's", faultOf("tam1c1c"), 6);
        due("a second figure", faultOf("tam1c11a"), 6);
        due("a letter and the end", faultOf("tam1c1ad"), 8);
        due("a WORTH and the end", faultOf("tam1c1ad2"), 9);
        due("a seventh BEAST", faultOf("tam1c1ac1ac1ac1ac1ac1a c1a"), 23);
        due("a sign behind six", faultOf("tam1c1ac1ac1ac1ac1ac1az"), 22);
        due("blanks behind six", faultOf("tam1c1ac1ac1ac1ac1ac1a  "), NONE);
        due("a byte below 0", faultOf("tam1c1a" + (char) 227), 7);
        due("every KIND", faultOf("tam1d1ay1au1ah1ax1ac1a"), NONE);
        HalvedCow x = new HalvedCow();
        refused("fault(0)", x, 0, x.fault(0), NOTHING);
        due("fault(4)", x.fault(4), BAD);
        due("fault(-1)", x.fault(-1), BAD);

        promise = 11;
        x = new HalvedCow();
        refused("farms(0)", x, 0, x.farms(0), NOTHING);
        due("farms(4)", x.farms(4), BAD);
        due("farms(-1)", x.farms(-1), BAD);
        write(x, 0, "tab m12 c1a d2b");
        write(x, 1, "tab m12 c1a d2b z");
        due("farms(1)", x.farms(1), STATE);
        due("farms(0)", x.farms(0), 2);
        x.day();
        x.drive(0);
        x.pay(0, 9);
        x.keep(0);
        x.keep(2);
        due("farms(1)", x.farms(1), STATE);
        due("refused: kept", x.count(9), 2);
        due("refused: DEEDS", x.count(4), 3);
        due("farms(0) again", x.farms(0), 2);
        due("TODAY", x.count(3), 0);
        due("DEEDS", x.count(4), 0);
        due("PAID", x.count(5), 10000);
        due("kept", x.count(9), 0);
        due("whose", x.value(0, 0), 2);
        refused("on(0)", x, 1, x.on(0), NOTHING);
        write(x, 0, "tb m3 u1b");
        due("the TEXT changes nothing", x.count(0), 2);
        due("fewer", x.farms(0), 1);
        due("fewer TURNS", x.count(1), 1);
        due("fewer MILKS", x.count(2), 1);

        beasts();
    }

    private static void beasts() {
        promise = 12;
        HalvedCow x = with(NINETEEN);
        int[][] beasts = {{0, 5, 0, 10, 10}, {1, 6, 1, 6, 6}, {2, 4, 0, 8, 11}, {3, 3, 1, 12, 6}, {4, 2, 0, 6, 9}, {5, 4, 1, 15, 7}};
        for (int i = 0; i < 6; i++) {
            for (int what = 0; what < 5; what++) {
                due("beast(" + i + ", " + what + ")", x.beast(i, what), 1);
                due("asked()", x.asked(), beasts[i][what]);
            }
        }
        x.drive(0);
        x.beast(0, 2);
        due("driven", x.asked(), 1);
        due("beast(6, 0)", x.beast(6, 0), BAD);
        due("beast(-1, 0)", x.beast(-1, 0), BAD);
        due("beast(0, 5)", x.beast(0, 5), BAD);
        due("beast(0, -1)", x.beast(0, -1), BAD);
        due("no BEASTS", new HalvedCow().beast(0, 0), BAD);

        promise = 13;
        x = with(NINETEEN);
        due("DRY", x.mark(1, 1), 6);
        due("YOUNG", x.mark(2, 2), 3);
        due("HEIFER as YOUNG", x.mark(4, 2), 3);
        due("BULL", x.mark(3, 3), 6);
        due("OX as BULL", x.mark(5, 3), 8);
        due("HEIFER", x.mark(4, 4), 1);
        due("OX", x.mark(5, 5), 5);
        x.drive(4);
        due("HEIFER alone", x.mark(4, 4), 0);
        int before = x.findings(UNLIKE);
        refused("COW as DRY", x, before, x.mark(0, 1), UNLIKE);
        refused("DRY as YOUNG", x, before + 1, x.mark(1, 2), UNLIKE);
        refused("YOUNG as HEIFER", x, before + 2, x.mark(2, 4), UNLIKE);
        refused("BULL as OX", x, before + 3, x.mark(3, 5), UNLIKE);
        refused("HEIFER as BULL", x, before + 4, x.mark(4, 3), UNLIKE);
        refused("OX as YOUNG", x, before + 5, x.mark(5, 2), UNLIKE);
        due("KIND 0", x.mark(0, 0), BAD);
        due("KIND 6", x.mark(0, 6), BAD);
        due("BEAST 6", x.mark(6, 1), BAD);
        due("BEAST -1", x.mark(-1, 1), BAD);
        x = with("ta m1 h1b h9b y5b h3a x1a x1b");
        due("other YOUNG ones", x.mark(0, 4), 2);
        due("other HEIFERS", x.mark(1, 4), 2);
        due("OX of the least VALUE", x.mark(4, 5), 0);

        promise = 14;
        x = with("tab m12 c1a");
        due("turn(0, 1)", x.turn(0, 1), 0);
        due("turn(0, 1)", x.turn(0, 1), 1);
        due("turn(1, 0)", x.turn(1, 0), 1);
        due("where(0)", x.where(0), 1);
        due("where(1)", x.where(1), 0);
        due("turn(2, 0)", x.turn(2, 0), BAD);
        due("turn(-1, 0)", x.turn(-1, 0), BAD);
        due("turn(0, 2)", x.turn(0, 2), BAD);
        due("turn(0, -1)", x.turn(0, -1), BAD);
        x.pay(0, 1);
        due("with DEEDS", x.turn(0, 0), STATE);
        due("BAD ahead of STATE", x.turn(2, 0), BAD);
        x.undo(0);
        due("undone", x.turn(0, 0), 1);
    }

    private static void deeds() {
        promise = 15;
        due("no BEASTS", new HalvedCow().day(), STATE);
        HalvedCow x = with("tab m12 c1a d2b");
        for (int d = 1; d <= 60; d++) {
            due("day()", x.day(), d);
        }
        due("a 61st", x.day(), FULL);
        due("TODAY", x.count(3), 60);

        promise = 16;
        due("no BEASTS", new HalvedCow().drive(0), BAD);
        due("FULL", x.drive(0), FULL);
        due("BAD ahead of FULL", x.drive(2), BAD);
        x = with("tab m12 c1a d2b");
        due("drive(0)", x.drive(0), 1);
        due("drive(1)", x.drive(1), 0);
        due("drive(0)", x.drive(0), 0);
        due("drive(2)", x.drive(2), BAD);
        due("drive(-1)", x.drive(-1), BAD);
        due("DEEDS", x.count(4), 3);

        promise = 17;
        due("no BEASTS", new HalvedCow().pay(0, 1), STATE);
        due("BAD ahead of STATE", new HalvedCow().pay(0, 0), BAD);
        x = with("tab m12 c1a d2b");
        due("pay(0, 99)", x.pay(0, 99), 9901);
        due("pay(1, 1)", x.pay(1, 1), 9902);
        due("pay(0, 0)", x.pay(0, 0), BAD);
        due("pay(0, 100)", x.pay(0, 100), BAD);
        due("pay(2, 1)", x.pay(2, 1), BAD);
        due("pay(-1, 1)", x.pay(-1, 1), BAD);
        for (int k = 0; k < 58; k++) {
            x.pay(1, 99);
        }
        due("FULL", x.pay(1, 1), FULL);
        due("BAD ahead of FULL", x.pay(1, 100), BAD);
        due("PAID", x.count(5), 10000 - 98 + 58 * 99);

        promise = 18;
        due("undo(58)", x.undo(58), 2);
        due("PAID", x.count(5), 10000 - 98 + 56 * 99);
        due("undo(58)", x.undo(58), 0);
        due("undo(59)", x.undo(59), BAD);
        due("undo(-1)", x.undo(-1), BAD);
        due("undo(1)", x.undo(1), 57);
        due("PAID", x.count(5), 9901);
        x.drive(1);
        x.day();
        x.drive(1);
        x.drive(0);
        x.day();
        due("undo(2)", x.undo(2), 4);
        due("TODAY", x.count(3), 0);
        x.beast(1, 2);
        due("driven once", x.asked(), 0);
        x.beast(0, 2);
        due("back", x.asked(), 0);
        due("undo(0)", x.undo(0), 2);
        due("DEEDS", x.count(4), 0);
        due("none", new HalvedCow().undo(0), 0);
        due("none", new HalvedCow().undo(1), BAD);

        promise = 19;
        due("no BEASTS", new HalvedCow().keep(0), STATE);
        due("BAD ahead of STATE", new HalvedCow().keep(3), BAD);
        x = with("tab m12 c1a d2b");
        x.turn(1, 0);
        due("keep(0)", x.keep(0), 0);
        x.turn(1, 1);
        x.drive(0);
        x.day();
        x.pay(0, 5);
        due("keep(2)", x.keep(2), 3);
        due("keep(3)", x.keep(3), BAD);
        due("keep(-1)", x.keep(-1), BAD);
        due("kept", x.count(9), 2);

        promise = 20;
        due("on(0)", x.on(0), 0);
        due("TURNS", x.where(1), 0);
        due("TODAY", x.count(3), 0);
        due("PAID", x.count(5), 10000);
        due("BEASTS", x.value(0, 0), 2);
        x.drive(1);
        due("on(2)", x.on(2), 3);
        due("TURNS", x.where(1), 1);
        due("TODAY", x.count(3), 1);
        due("PAID", x.count(5), 9995);
        due("BEASTS", x.value(1, 0), 4);
        due("kept DEEDS undone", x.undo(1), 2);
        due("TODAY", x.count(3), 0);
        x.undo(0);
        x.pay(1, 9);
        x.pay(1, 9);
        due("kept stays as it was", x.on(2), 3);
        due("kept DEEDS undone", x.undo(2), 1);
        due("the SUM", x.count(5), 10000);
        due("kept DEEDS undone", x.undo(0), 2);
        due("the BEAST", x.value(0, 0), 2);
        due("kept stays as it was", x.on(2), 3);
        due("gone on from", x.day(), 2);
        due("kept stays as it was", x.on(2), 3);
        due("TODAY", x.count(3), 1);
        refused("on(1)", x, 0, x.on(1), NOTHING);
        due("on(3)", x.on(3), BAD);
        due("on(-1)", x.on(-1), BAD);
    }

    private static void turnsAndMilk() {
        promise = 21;
        HalvedCow x = with("tabb m5031 c1a");
        int[] farms = {0, 1, 1, 0, 1, 1};
        for (int d = 0; d < 6; d++) {
            due("where(" + d + ")", x.where(d), farms[d]);
        }
        due("where(999)", x.where(999), 0);
        due("where(1000)", x.where(1000), BAD);
        due("where(-1)", x.where(-1), BAD);
        due("no BEASTS", new HalvedCow().where(0), STATE);

        promise = 22;
        due("both DAYS, too", x.milk(0, 0, 3), 6);
        due("one DAY", x.milk(1, 2, 2), 3);
        due("none", x.milk(0, 1, 2), 0);
        due("all", x.milk(0, 0, 999) + x.milk(1, 0, 999), 2250);
        due("milk(2, ..)", x.milk(2, 0, 0), BAD);
        due("milk(-1, ..)", x.milk(-1, 0, 0), BAD);
        due("backwards", x.milk(0, 2, 1), BAD);
        due("too late", x.milk(0, 0, 1000), BAD);
        due("too early", x.milk(0, -1, 0), BAD);
        due("no BEASTS", new HalvedCow().milk(0, 0, 0), STATE);
        due("BAD ahead of STATE", new HalvedCow().milk(0, 1, 0), BAD);

        promise = 23;
        int[] walks = {0, 1, 1, 2, 3, 3, 4};
        for (int d = 0; d < 7; d++) {
            due("walks(" + d + ")", x.walks(d), walks[d]);
        }
        due("never", with("tbb m1 c1a").walks(999), 0);
        due("always", with("tba m1 c1a").walks(999), 999);
        due("walks(1000)", x.walks(1000), BAD);
        due("walks(-1)", x.walks(-1), BAD);
        due("no BEASTS", new HalvedCow().walks(0), STATE);

        promise = 24;
        x = with("tba m12 c1a");
        due("out(0)", x.out(0), 0);
        due("FARM 1", x.asked(), 1);
        due("out(1)", x.out(1), 3);
        due("FARM 0", x.asked(), 0);
        due("out(99)", x.out(99), 199);
        x = with("tab m11 c1a");
        due("out(0)", x.out(0), 0);
        due("out(1)", x.out(1), NONE);
        due("asked() stays", x.asked(), 0);
        due("out(100)", x.out(100), BAD);
        due("out(-1)", x.out(-1), BAD);
        due("no BEASTS", new HalvedCow().out(0), STATE);
        due("the last DAY", with("tabaabaaa m00001 c1a").out(99), 999);

        promise = 25;
        due("7 and 6", with("tabababa m123456 c1a").round(), 42);
        due("8 and 6", with("tabababab m123456 c1a").round(), 24);
        due("2 and 4", with("tab m1234 c1a").round(), 4);
        due("1 and 1", with("ta m0 c1a").round(), 1);
        due("no BEASTS", new HalvedCow().round(), STATE);

        bestAndEven();
    }

    private static void bestAndEven() {
        promise = 26;
        HalvedCow x = with("tb m5031 c1a");
        due("best(4, 1)", x.best(4, 1), 1);
        due("WALKS", x.asked(), 1);
        int[] turns = {0, 0, 1, 1};
        for (int d = 0; d < 4; d++) {
            due("the first ones", told(x, 1, d), turns[d]);
        }
        due("as many as DAYS", x.at(1, 4), FINDING);
        due("TURNS stay", x.where(0), 1);
        due("best(1, 1)", x.best(1, 1), 5);
        due("WALKS", x.asked(), 0);
        due("anew", x.at(1, 1), FINDING);
        x = with("tb m123 c1a");
        due("best(3, 5)", x.best(3, 5), 0);
        due("WALKS", x.asked(), 1);
        due("FARM 0 ahead", told(x, 5, 0), 0);
        due("then FARM 0", told(x, 5, 1), 0);
        due("then FARM 1", told(x, 5, 2), 1);
        due("best(8, 0)", x.best(8, 0), 1);
        due("best(0, 0)", x.best(0, 0), BAD);
        due("best(9, 0)", x.best(9, 0), BAD);
        due("best(1, 6)", x.best(1, 6), BAD);
        due("best(1, -1)", x.best(1, -1), BAD);
        due("no BEASTS", new HalvedCow().best(1, 0), STATE);
        HalvedCow refused = new HalvedCow();
        refused.best(8, 0);
        due("refused: no ROW", refused.count(7), 0);
        x = with("tb m0 c1a");
        due("no MILK", x.best(8, 2), 0);
        due("no WALK", x.asked(), 0);
        due("FARM 0's", told(x, 2, 7), 0);
        x = with("ta m152 c1a");
        due("fewest WALKS", x.best(4, 2), 1);
        due("WALKS", x.asked(), 2);

        promise = 27;
        x = with("taa m1 c1a");
        due("one", x.even(), 1);
        due("the least", x.asked(), 1);
        x = with("tab m1 c1a");
        due("none needed", x.even(), 0);
        due("asked()", x.asked(), 0);
        x = with("tbbbbbbbb m1 c1a");
        due("four", x.even(), 4);
        due("asked()", x.asked(), 15);
        due("TURNS stay", x.where(0), 1);
        x = with("ta m1 c1a");
        x.beast(0, 1);
        due("by none", x.even(), NONE);
        due("asked() stays", x.asked(), 1);
        due("a later TURN", with("taba m3 c1a").even(), NONE);
        x = with("tabba m53 c1a");
        due("24 DAYS", x.even(), 0);
        due("no BEASTS", new HalvedCow().even(), STATE);
    }

    private static void partings() {
        promise = 28;
        HalvedCow x = with(NINETEEN);
        due("value(0, 0)", x.value(0, 0), 24);
        due("value(0, 1)", x.value(0, 1), 30);
        due("value(1, 0)", x.value(1, 0), 33);
        due("value(1, 1)", x.value(1, 1), 19);
        x.drive(5);
        due("driven", x.value(0, 0), 39);
        due("value(2, 0)", x.value(2, 0), BAD);
        due("value(0, 2)", x.value(0, 2), BAD);
        due("value(-1, 0)", x.value(-1, 0), BAD);
        due("value(0, -1)", x.value(0, -1), BAD);
        due("no BEASTS", new HalvedCow().value(1, 1), 0);

        promise = 29;
        x = with("ta m1 c2a c2b");
        due("alike", x.fair(), 1);
        x.pay(0, 1);
        due("PAID 1", x.fair(), 0);
        x = with("ta m1 c3a c1b");
        due("unlike", x.fair(), 0);
        x.pay(0, 1);
        due("too little", x.fair(), 0);
        x.pay(0, 1);
        due("PAID counts on both sides", x.fair(), 1);
        x.pay(0, 1);
        due("too much", x.fair(), 0);
        due("FARM 0 would", with("ta m1 y1a u1b").fair(), 0);
        due("each by its own", with("ta m1 u1a y1b").fair(), 1);
        due("FARM 0 by its own", with("ta m1 u2a c3b").fair(), 1);
        due("FARM 1 by its own", with("ta m1 c3a y2b").fair(), 1);
        due("FARM 1 by its own", with("ta m1 y2a c3b").fair(), 0);
        due("no BEASTS", new HalvedCow().fair(), STATE);

        promise = 30;
        x = with("ta m1 c2a c2b");
        due("both ways", x.ways(), 2);
        due("none driven", x.asked(), 0);
        x.drive(0);
        x.pay(1, 50);
        due("SUMS aside", x.ways(), 2);
        due("one driven", x.asked(), 1);
        due("aside", x.value(0, 0), 0);
        x = with("ta m1 c1a");
        due("in none", x.ways(), 0);
        due("NONE", x.asked(), NONE);
        x = with("ta m1 c2b c2b c1a c1a");
        due("some", x.ways(), 4);
        due("fewest", x.asked(), 2);
        due("no BEASTS", new HalvedCow().ways(), STATE);

        promise = 31;
        x = with("ta m1 u3a c4a");
        due("part()", x.part(), 2);
        due("asked()", x.asked(), 8);
        x = with("ta m1 c2a c2b");
        due("the least", x.part(), 1);
        due("asked()", x.asked(), 4);
        x = with("ta m1 c9b");
        due("alone", x.part(), 0);
        due("asked()", x.asked(), 0);
        due("aside", x.value(1, 1), 18);
        due("no BEASTS", new HalvedCow().part(), STATE);

        sumsAndHeirs();
    }

    private static void sumsAndHeirs() {
        promise = 32;
        HalvedCow x = with("ta m1 c2a c2b");
        due("none needed", x.sum(), 0);
        due("asked()", x.asked(), NONE);
        x = with("ta m1 c3a c1b");
        due("FARM 0 pays", x.sum(), 2);
        due("asked()", x.asked(), 0);
        due("aside", x.count(4), 0);
        x.pay(0, 12);
        due("back", x.sum(), 10);
        due("asked()", x.asked(), 1);
        x.undo(0);
        x.beast(0, 1);
        x.drive(0);
        due("FARM 1 pays", x.sum(), 4);
        due("asked()", x.asked(), 1);
        x = with("ta m1 u9b y1a");
        x.beast(0, 1);
        due("by none", x.sum(), NONE);
        due("asked() stays", x.asked(), 9);
        x = with("ta m1 c1a");
        x.pay(0, 99);
        due("98", x.sum(), 98);
        x.pay(0, 1);
        due("99", x.sum(), 99);
        x.pay(0, 1);
        due("100", x.sum(), NONE);
        due("no BEASTS", new HalvedCow().sum(), STATE);

        promise = 33;
        x = with("ta m1 c1a c1a c1b");
        due("alike", x.heirs(), 0);
        due("0, 1, 2", x.asked(), 5);
        x = with("ta m1 c3a c1a c2b");
        due("unlike", x.heirs(), 4);
        due("0, 1, 2", x.asked(), 5);
        x = with("ta m1 c9b");
        due("alone", x.heirs(), 18);
        due("asked()", x.asked(), 0);
        x = with("ta m1 u1a y2b c4b c1a c1a");
        due("as to FARM 0", x.heirs(), 2);
        due("0, 1, 2, 0, 1", x.asked(), 46);
        due("no BEASTS", new HalvedCow().heirs(), STATE);
    }

    private static void calvesBillsBooks() {
        promise = 34;
        HalvedCow x = with("tabb m152 c1a");
        int[][] readings = {{0, 0, 0, 1}, {1, 0, 1, 0}, {1, 1, 1, 0}, {0, 1, 1, 1}, {1, 0, 1, 0}};
        for (int d = 0; d < 5; d++) {
            for (int reading = 0; reading < 4; reading++) {
                due("calf(" + d + ", " + reading + ")", x.calf(d, reading), readings[d][reading]);
            }
        }
        due("the last DAY", x.calf(999, 3), 1);
        due("alike: FARM 0", with("tba m11 c1a").calf(1, 2), 0);
        due("that DAY, too", with("tba m11 c1a").calf(0, 2), 1);
        due("never", with("tbb m1 c1a").calf(5, 3), NONE);
        due("calf(1000, 0)", x.calf(1000, 0), BAD);
        due("calf(-1, 0)", x.calf(-1, 0), BAD);
        due("calf(0, 4)", x.calf(0, 4), BAD);
        due("calf(0, -1)", x.calf(0, -1), BAD);
        due("no BEASTS", new HalvedCow().calf(0, 0), STATE);

        promise = 35;
        due("quarrel(0, 0, 1)", x.quarrel(0, 0, 1), 1);
        due("quarrel(2, 0, 1)", x.quarrel(2, 0, 1), 3);
        due("quarrel(3, 1, 0)", x.quarrel(3, 1, 0), 3);
        due("quarrel(0, 0, 2)", x.quarrel(0, 0, 2), 3);
        due("quarrel(4, 2, 0)", x.quarrel(4, 2, 0), 6);
        due("quarrel(1, 1, 3)", x.quarrel(1, 1, 3), 2);
        due("quarrel(999, 0, 1)", x.quarrel(999, 0, 1), 999);
        due("quarrel(998, 0, 1)", x.quarrel(998, 0, 1), 999);
        due("NONE is unlike any FARM", with("ta m1 c1a").quarrel(7, 0, 3), 7);
        due("never", with("ta m1 c1a").quarrel(0, 0, 1), NONE);
        due("MILK of the DAYS ahead", with("tabb m900000 c1a").quarrel(3, 1, 2), 3);
        due("alike up to the DAY ahead", with("tab m1 c1a").quarrel(1, 0, 2), 1);
        due("MILK of that DAY once", with("tba m12 c1a").quarrel(1, 0, 2), 2);
        due("quarrel(1000, 0, 1)", x.quarrel(1000, 0, 1), BAD);
        due("quarrel(-1, 0, 1)", x.quarrel(-1, 0, 1), BAD);
        due("quarrel(0, 4, 1)", x.quarrel(0, 4, 1), BAD);
        due("quarrel(0, 0, -1)", x.quarrel(0, 0, -1), BAD);
        due("quarrel(0, 2, 2)", x.quarrel(0, 2, 2), BAD);
        due("no BEASTS", new HalvedCow().quarrel(0, 0, 1), STATE);

        promise = 36;
        x = with("tabba m5031 c1a");
        partTold("bill(100, 3)", x, x.bill(100, 3), 200, 3);
        partTold("bill(9, 3)", x, x.bill(9, 3), 6, 1);
        partTold("bill(9999, 999)", x, x.bill(9999, 999), 6666, 1);
        due("bill(0, 0)", x.bill(0, 0), BAD);
        due("bill(10000, 0)", x.bill(10000, 0), BAD);
        due("bill(1, 1000)", x.bill(1, 1000), BAD);
        due("bill(1, -1)", x.bill(1, -1), BAD);
        due("refused: upper()", x.upper(), 6666);
        due("no BEASTS", new HalvedCow().bill(1, 0), STATE);
        x = with("tba m01 c1a");
        partTold("no MILK", x, x.bill(9, 0), 9, 2);
        partTold("no MILK", x, x.bill(8, 0), 4, 1);
        x = with("tba m31 c1a");
        partTold("FARM 1's DAY 0", x, x.bill(8, 1), 2, 1);
        x = with("tb m1 c1a");
        partTold("FARM 1's alone", x, x.bill(9, 9), 0, 1);

        books();
    }

    private static void books() {
        promise = 37;
        HalvedCow x = new HalvedCow();
        layAll(x, 2, 0, 0, 1, 1, 5, 1);
        partTold("fits(2, 4)", x, x.fits(2, 4), 4, 1);
        due("the least", x.asked(), 2);
        partTold("fits(2, 8)", x, x.fits(2, 8), 32, 1);
        due("the least", x.asked(), 34);
        partTold("fits(2, 1)", x, x.fits(2, 1), 0, 1);
        due("none", x.asked(), NONE);
        x.row(3, 0);
        partTold("an empty book", x, x.fits(3, 8), 256, 1);
        due("the least", x.asked(), 0);
        layAll(x, 3, 999, 1, 999, 1);
        partTold("twice the same", x, x.fits(3, 8), 128, 1);
        due("DAY 999 of 8", x.asked(), 128);
        refused("fits(0, 1)", x, 0, x.fits(0, 1), NOTHING);
        layAll(x, 0, 1000, 5, 3);
        refused("SIZE ahead of UNLIKE", x, 0, x.fits(0, 1), SIZE);
        layAll(x, 0, 0, 0, 1000, 1);
        refused("DAY 1000", x, 0, x.fits(0, 1), UNLIKE);
        layAll(x, 0, -1, 0);
        refused("DAY -1", x, 1, x.fits(0, 1), UNLIKE);
        layAll(x, 0, 0, 2);
        refused("FARM 2", x, 2, x.fits(0, 1), UNLIKE);
        layAll(x, 0, 0, 0, 0, 1, 3, -1);
        refused("FARM -1", x, 3, x.fits(0, 1), UNLIKE);
        due("fits(6, 1)", x.fits(6, 1), BAD);
        due("fits(-1, 1)", x.fits(-1, 1), BAD);
        due("fits(2, 0)", x.fits(2, 0), BAD);
        due("fits(2, 9)", x.fits(2, 9), BAD);
        due("refused: upper()", x.upper(), 128);

        promise = 38;
        x = new HalvedCow();
        layAll(x, 2, 0, 0, 1, 1, 5, 1);
        due("sure(2, 4, 0)", x.sure(2, 4, 0), 0);
        due("sure(2, 4, 9)", x.sure(2, 4, 9), 1);
        due("sure(2, 4, 2)", x.sure(2, 4, 2), NONE);
        due("sure(2, 4, 999)", x.sure(2, 4, 999), NONE);
        due("sure(2, 3, 999)", x.sure(2, 3, 999), 0);
        due("there are none", x.sure(2, 1, 0), NONE);
        due("there are none", x.sure(2, 5, 1), NONE);
        due("sure(2, 4, 1000)", x.sure(2, 4, 1000), BAD);
        due("sure(2, 4, -1)", x.sure(2, 4, -1), BAD);
        due("sure(2, 9, 0)", x.sure(2, 9, 0), BAD);
        due("sure(2, 0, 0)", x.sure(2, 0, 0), BAD);
        due("sure(6, 1, 0)", x.sure(6, 1, 0), BAD);
        due("sure(-1, 1, 0)", x.sure(-1, 1, 0), BAD);
        due("BAD ahead of NOTHING", x.sure(0, 1, 1000), BAD);
        refused("sure(0, 1, 0)", x, 0, x.sure(0, 1, 0), NOTHING);
        layAll(x, 0, 1, 1, 1);
        refused("not by pairs", x, 0, x.sure(0, 1, 0), SIZE);
        layAll(x, 0, 1, 1, 1, 7);
        refused("no FARM", x, 0, x.sure(0, 1, 0), UNLIKE);
        due("upper() is not told", x.upper(), 0);
    }

    private static void chancesAndLots() {
        promise = 39;
        HalvedCow x = with("tabb m1 c1a");
        partTold("odds(0, 3, 6)", x, x.odds(0, 3, 6), 1, 2);
        partTold("odds(1, 3, 6)", x, x.odds(1, 3, 6), 3, 8);
        partTold("odds(1, 3, 4)", x, x.odds(1, 3, 4), 10, 27);
        partTold("odds(0, 0, 6)", x, x.odds(0, 0, 6), 0, 1);
        partTold("odds(0, 8, 0)", x, x.odds(0, 8, 0), 0, 1);
        partTold("odds(0, 8, 12)", x, x.odds(0, 8, 12), 1, 1);
        partTold("odds(1, 8, 12)", x, x.odds(1, 8, 12), 0, 1);
        x.day();
        partTold("from TODAY on", x, x.odds(1, 2, 6), 3, 4);
        due("odds(2, 0, 0)", x.odds(2, 0, 0), BAD);
        due("odds(-1, 0, 0)", x.odds(-1, 0, 0), BAD);
        due("odds(0, 9, 0)", x.odds(0, 9, 0), BAD);
        due("odds(0, -1, 0)", x.odds(0, -1, 0), BAD);
        due("odds(0, 0, 13)", x.odds(0, 0, 13), BAD);
        due("odds(0, 0, -1)", x.odds(0, 0, -1), BAD);
        due("refused: upper()", x.upper(), 3);
        due("no BEASTS", new HalvedCow().odds(0, 0, 0), STATE);
        x = with("ta m1 c1a");
        partTold("odds(0, 8, 1)", x, x.odds(0, 8, 1), 215622815L, 429981696L);

        promise = 40;
        x = with("ta m1 c1a d1b");
        // 48271 (1 modulo 3), 182605794 (0), 1291394886 (0), 1914720637 (1)
        due("lots(1, 1)", x.lots(1, 1), 2);
        due("BEAST 48271 / 8 % 2 is driven", x.value(0, 0), 3);
        due("lots(4, 1)", x.lots(4, 1), 2);
        due("TODAY", x.count(3), 2);
        due("DEEDS", x.count(4), 5);
        x.undo(0);
        // 2 comes to 96542 (2 modulo 3): FARM 1 pays 96542 / 64 % 9 + 1
        due("lots(1, 2)", x.lots(1, 2), 1);
        due("PAID", x.count(5), 10006);
        due("lots(20, 2147483646)", x.lots(20, 2147483646) >= 0 ? 1 : 0, 1);
        due("DEEDS", x.count(4), 21);
        due("lots(20, 3)", x.lots(20, 3) >= 0 ? 1 : 0, 1);
        due("lots(20, 3)", x.lots(20, 3), FULL);
        due("lots(19, 3)", x.lots(19, 3) >= 0 ? 1 : 0, 1);
        due("DEEDS", x.count(4), 60);
        due("lots(1, 3)", x.lots(1, 3), FULL);
        due("lots(0, 1)", x.lots(0, 1), BAD);
        due("lots(21, 1)", x.lots(21, 1), BAD);
        due("lots(1, 0)", x.lots(1, 0), BAD);
        due("lots(1, -1)", x.lots(1, -1), BAD);
        due("lots(1, MAX)", x.lots(1, MAX), BAD);
        due("no BEASTS", new HalvedCow().lots(1, 1), STATE);
        HalvedCow five = with("ta m1 c1a c2a c3a c4a c5a");
        // 4 comes to 193084 (1 modulo 3): BEAST 193084 / 8 % 5, so 0; by 7 or 9 it would be another one
        due("lots(1, 4)", five.lots(1, 4), 4);
        due("BEAST 0", five.value(1, 0), 2);
        due("of one", with("ta m1 c1a").lots(1, 4), 0);
        due("DEEDS are undone", x.undo(0), 60);
        due("PAID", x.count(5), 10000);
        due("whose", x.value(0, 0), 2);
    }

    private static void whatIsTold() {
        promise = 41;
        HalvedCow x = new HalvedCow();
        due("before", x.asked(), 0);
        x = with("ta m1 c7a");
        x.beast(0, 1);
        x.where(0);
        x.sure(0, 1, 0);
        x.bill(5, 0);
        x.odds(0, 1, 1);
        x.value(0, 0);
        x.fair();
        x.round();
        x.mark(0, 1);
        x.even();
        x.at(0, 0);
        x.out(-1);
        due("others, refused, NONE", x.asked(), 7);

        promise = 42;
        due("before", new HalvedCow().upper(), 0);
        x.bill(5, 0);
        due("told last", x.upper(), 5);

        promise = 43;
        due("before", new HalvedCow().lower(), 1);
        x.odds(0, 1, 1);
        due("told last", x.lower(), 12);
        x.odds(0, 0, 1);
        due("0 by 1", x.lower(), 1);

        promise = 44;
        x = with(NINETEEN);
        x.row(0, 0);
        x.row(4, 40);
        x.text(1, 0);
        x.day();
        x.day();
        x.pay(1, 7);
        x.keep(1);
        int[] counts = {6, 4, 4, 2, 3, 10007, 2, 2, 2, 1};
        for (int what = 0; what <= 9; what++) {
            due("count(" + what + ")", x.count(what), counts[what]);
        }
        due("a BULL ahead", with("ta m1 u1a").count(6), 1);
        due("count(10)", x.count(10), BAD);
        due("count(-1)", x.count(-1), BAD);

        promise = 45;
        x = new HalvedCow();
        due("before", x.finding(), 0);
        x.row(0, -1);
        due("SIZE", x.finding(), SIZE);
        x.row(9, 0);
        x.row(0, 0);
        x.day();
        due("stays", x.finding(), SIZE);
        x.mean(0);
        due("NOUGHT", x.finding(), NOUGHT);

        promise = 46;
        for (int f = 1; f <= 5; f++) {
            due("findings(" + f + ")", x.findings(f), f >= NOUGHT ? 1 : 0);
        }
        due("findings(0)", x.findings(0), BAD);
        due("findings(6)", x.findings(6), BAD);
        due("findings(-1)", x.findings(-1), BAD);

        digests();
    }

    private static long digestOf(long... vs) {
        long h = 17;
        for (long v : vs) {
            h = 31 * h + v;
        }
        return h;
    }

    private static void digests() {
        promise = 47;
        HalvedCow x = new HalvedCow();
        due("new", x.digest(), digestOf(0, 0, 0, 0, 0, 10000, 0, 0, 0, 0,
            -1, -1, -1, -1, -1, -1, -1, -1, -1, -1, -1, -1, -1));
        write(x, 3, "tb m7 h1b");
        x.farms(3);
        x.day();
        x.keep(1);
        x.pay(0, 3);
        layAll(x, 0, 5, -6);
        x.row(2, 0);
        x.text(0, 1);
        x.put(0, 0, 255);
        x.put(3, 0, 128);
        x.beast(0, 1);
        long due = digestOf(1, 1, 1, 1, 2, 9997, 0, 2, 2, 1,
            1,
            4, 1, 1, 4, 7,
            -1, 1, -1,
            2, 5, -6, -1, 0, -1, -1, -1,
            1, -1, -1, -1, 9, -128, 'b', 32, 'm', '7', 32, 'h', '1', 'b');
        due("digest()", x.digest(), due);
        due("asked() stays", x.asked(), 1);
        due("digest() again", x.digest(), due);
    }
}

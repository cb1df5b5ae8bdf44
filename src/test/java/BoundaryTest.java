import java.io.IOException;
import java.math.BigInteger;
import java.nio.file.Files;
import java.nio.file.Path;
import java.util.ArrayList;
import java.util.Arrays;
import java.util.HashMap;
import java.util.List;
import java.util.Map;
import java.util.regex.Matcher;
import java.util.regex.Pattern;

/**
 * Each sentence of the document that names a boundary case, with calls at the boundary and just beyond it. A sentence
 * is quoted; the test fails if the document has it no more, if nothing is held against it, or if some words of the
 * document that name a boundary are quoted nowhere.
 */
public final class BoundaryTest {
    private static final int BAD = -1, FULL = -2, FINDING = -3, STATE = -4, NONE = -9;
    private static final int NOTHING = 1, BEYOND = 2, UNLIKE = 3, NOUGHT = 4, SIZE = 5;
    private static final int MIN = Integer.MIN_VALUE, MAX = Integer.MAX_VALUE;
    private static final String SIX = "tabba m5031 c5a d6b y4a u3b h2a x4b";
    private static final Pattern BOUNDARY = Pattern.compile(
        "BAD|FULL|STATE|FINDING\\b|NONE|NOTHING|BEYOND|UNLIKE|NOUGHT|SIZE|\\d \\.\\.|\\d to \\d|at most|missing|at first|anew|before");

    private interface Stage {
        HalvedCow make();
    }

    private interface Call {
        long on(HalvedCow x);
    }

    private interface CallOf {
        long on(HalvedCow x, int v);
    }

    private static final Map<String, String> SECTIONS = new HashMap<>();
    private static final Map<String, List<String>> QUOTED = new HashMap<>();
    private static String section = "";
    private static String quote = "";
    private static int checks = 0;
    private static int checksAhead = 0;
    private static int wrong = 0;

    // ---- the document

    private static void readDocument() throws IOException {
        String document = Files.readString(Path.of("../shared/DOC.md"));
        for (String part : document.split("(?m)^## ")) {
            int end = part.indexOf('\n');
            SECTIONS.put(end < 0 ? part : part.substring(0, end).replaceAll("^(Promise \\d+):.*", "$1"), end < 0 ? "" : part.substring(end));
        }
    }

    private static void fail(String what) {
        wrong++;
        System.out.println(section + ", \"" + quote + "\": " + what);
    }

    private static void promise(int n) {
        closeSentence();
        section = n == 0 ? "Terms" : "Promise " + n;
        quote = "";
    }

    private static void says(String words) {
        closeSentence();
        quote = words;
        QUOTED.computeIfAbsent(section, s -> new ArrayList<>()).add(words);
        if (!SECTIONS.getOrDefault(section, "").contains(words)) {
            fail("the document does not say so");
        }
    }

    private static void closeSentence() {
        if (!quote.isEmpty() && checks == checksAhead) {
            fail("nothing is held against it");
        }
        checksAhead = checks;
    }

    private static void lookForSentencesLeft() {
        for (int n = 0; n <= 47; n++) {
            promise(n);
            String rest = SECTIONS.getOrDefault(section, "BAD: no such section");
            for (String words : QUOTED.getOrDefault(section, List.of())) {
                rest = rest.replace(words, "\n");
            }
            Matcher left = BOUNDARY.matcher(rest);
            if (left.find()) {
                fail("no test of its own: .. " + rest.substring(left.start()).split("\n")[0]);
            }
        }
    }

    // ---- checks

    private static void due(String what, long got, long want) {
        checks++;
        if (got != want) {
            fail(what + " answered " + got + ", due is " + want);
        }
    }

    /** Refused so (by a FINDING, or by none: 0), and behind it all is as on a stage where it was not called. */
    private static void refused(String what, Stage stage, Call call, int answer, int finding) {
        HalvedCow x = stage.make();
        HalvedCow twin = stage.make();
        due(what, call.on(x), answer);
        due(what + ", then finding()", x.finding(), finding == 0 ? twin.finding() : finding);
        for (int f = 1; f <= 5; f++) {
            due(what + ", then findings(" + f + ")", x.findings(f), twin.findings(f) + (f == finding ? 1 : 0));
        }
        checks++;
        if (!allOf(x).equals(allOf(twin))) {
            fail(what + " changed more than finding(), findings()");
        }
    }

    private static void bad(String what, Stage stage, Call call) {
        refused(what, stage, call, BAD, 0);
    }

    private static void noFarms(String what, Call call) {
        refused(what + " without FARMS", BoundaryTest::withoutFarms, call, STATE, 0);
    }

    private static void finds(String what, Stage stage, Call call, int finding) {
        refused(what, stage, call, FINDING, finding);
    }

    private static void taken(String what, Stage stage, Call call, long answer) {
        HalvedCow x = stage.make();
        HalvedCow twin = stage.make();
        due(what, call.on(x), answer);
        due(what + ", then finding()", x.finding(), twin.finding());
        for (int f = 1; f <= 5; f++) {
            due(what + ", then findings(" + f + ")", x.findings(f), twin.findings(f));
        }
    }

    /** Numbers from least to most are some, and those beyond are none. */
    private static void edges(String what, Stage stage, CallOf call, int least, int most) {
        for (int v : new int[] {least, most}) {
            HalvedCow x = stage.make();
            checks++;
            if (call.on(x, v) == BAD) {
                fail(what + " of " + v + " is BAD");
            }
        }
        for (int v : new int[] {least - 1, MIN, most + 1, MAX}) {
            bad(what + " of " + v, stage, x -> call.on(x, v));
        }
    }

    /** All that later calls could show but the FINDINGS; it goes through the DEEDS and kept FARMS, so x is spent by it. */
    private static List<Long> allOf(HalvedCow x) {
        List<Long> all = new ArrayList<>(List.of((long) x.asked(), x.upper(), x.lower(), x.digest()));
        addFarms(all, x);
        for (int k = 0; k < 3; k++) {
            if (x.on(k) >= 0) {
                addFarms(all, x);
            }
        }
        return all;
    }

    private static void addFarms(List<Long> all, HalvedCow x) {
        for (int d = 0; d < 12; d++) {
            all.add((long) x.milk(0, d, d));
            all.add((long) x.milk(1, d, d));
        }
        for (int n = x.count(4); n >= 0; n--) {
            all.add((long) x.undo(n));
            all.add(x.digest());
        }
    }

    // ---- stages

    private static void write(HalvedCow x, int t, String signs) {
        x.text(t, signs.length());
        for (int i = 0; i < signs.length(); i++) {
            x.put(t, i, signs.charAt(i));
        }
    }

    private static void layAll(HalvedCow x, int r, int... vs) {
        x.row(r, vs.length);
        for (int i = 0; i < vs.length; i++) {
            x.lay(r, i, vs[i]);
        }
    }

    private static HalvedCow with(String signs) {
        HalvedCow x = new HalvedCow();
        write(x, 3, signs);
        x.farms(3);
        return x;
    }

    private static HalvedCow with(String signs, int r, int... vs) {
        HalvedCow x = with(signs);
        layAll(x, r, vs);
        return x;
    }

    private static HalvedCow book(int... vs) {
        HalvedCow x = new HalvedCow();
        layAll(x, 2, vs);
        return x;
    }

    /** ROWS: 0 of three, 1 of none, 2 a book, 3 missing, 4 no book, 5 of forty. TEXTS: 0 FARMS, 1 of none, 2 missing, 3 with a FAULT. */
    private static void layOut(HalvedCow x) {
        layAll(x, 0, 3, 1, 4);
        x.row(1, 0);
        layAll(x, 2, 0, 0, 1, 1, 5, 1);
        layAll(x, 4, 0, 0, 1000, 1);
        x.row(5, 40);
        x.lay(5, 39, 7);
        write(x, 0, SIX);
        x.text(1, 0);
        write(x, 3, "ta m1 z");
    }

    /** Something is told, and each FINDING was answered once; the latest one is SIZE. */
    private static void tellSomething(HalvedCow x) {
        x.fits(2, 4);
        x.at(3, 0);
        x.at(1, 0);
        x.fits(4, 1);
        x.mean(1);
        x.row(3, -1);
        x.at(0, 2);
    }

    private static HalvedCow withoutFarms() {
        HalvedCow x = new HalvedCow();
        layOut(x);
        tellSomething(x);
        return x;
    }

    /** Six BEASTS and no DEED. */
    private static HalvedCow begun() {
        HalvedCow x = new HalvedCow();
        layOut(x);
        x.farms(0);
        tellSomething(x);
        return x;
    }

    /** Five DEEDS; kept in places 0 (without DEEDS) and 2 (with three). */
    private static HalvedCow busy() {
        HalvedCow x = begun();
        x.turn(1, 0);
        x.keep(0);
        x.turn(1, 1);
        x.day();
        x.drive(2);
        x.pay(1, 7);
        x.keep(2);
        x.drive(5);
        x.day();
        return x;
    }

    /** As many DEEDS as there can be. */
    private static HalvedCow full() {
        HalvedCow x = busy();
        x.lots(20, 7);
        x.lots(20, 8);
        x.lots(14, 9);
        x.drive(0);
        return x;
    }

    private static HalvedCow withDeeds(int n) {
        HalvedCow x = with("tab m12 c1a d2b");
        for (int k = 0; k < n; k++) {
            x.day();
        }
        return x;
    }

    private static int told(HalvedCow x, int r, int i) {
        x.at(r, i);
        return x.asked();
    }

    private static void tells(String what, HalvedCow x, long got, long answer, int asked) {
        due(what, got, answer);
        due(what + ", then asked()", x.asked(), asked);
    }

    private static void part(String what, HalvedCow x, long got, long upper, long lower) {
        due(what, got, 1);
        due(what + ", then upper()", x.upper(), upper);
        due(what + ", then lower()", x.lower(), lower);
    }

    public static void main(String[] args) throws IOException {
        readDocument();
        termsOfRefusal();
        termsOfFarms();
        termsOfKinds();
        termsOfDays();
        newObject();
        rows();
        places();
        copies();
        means();
        texts();
        readings();
        beasts();
        marks();
        turns();
        deeds();
        undoing();
        keeping();
        daysAndMilk();
        outAndRound();
        bestAndEven();
        values();
        partings();
        sums();
        heirs();
        calves();
        quarrels();
        bills();
        books();
        sureOnes();
        chances();
        lots();
        whatWasTold();
        counts();
        digests();
        lookForSentencesLeft();
        System.out.println(checks + " checks at boundaries, " + wrong + " wrong");
        if (wrong != 0) {
            System.exit(1);
        }
    }

    // ---- Terms

    private static void termsOfRefusal() {
        promise(0);
        says("Refused is, the first of these that fits, in this order: BAD -1 (a number that is none, or not as told), FULL -2, "
            + "STATE -4 (not now), SPENT -6 (more than told), FINDING -3 (finding() tells which), unless a call says so otherwise. NONE -9.");
        due("BAD", HalvedCow.BAD, -1);
        due("FULL", HalvedCow.FULL, -2);
        due("FINDING", HalvedCow.FINDING, -3);
        due("STATE", HalvedCow.STATE, -4);
        due("SPENT", HalvedCow.SPENT, -6);
        due("NONE", HalvedCow.NONE, -9);
        bad("BAD ahead of FULL: drive(6)", BoundaryTest::full, x -> x.drive(6));
        bad("BAD ahead of FULL: pay(2, 1)", BoundaryTest::full, x -> x.pay(2, 1));
        bad("BAD ahead of FULL: pay(0, 100)", BoundaryTest::full, x -> x.pay(0, 100));
        bad("BAD ahead of FULL: lots(21, 1)", BoundaryTest::full, x -> x.lots(21, 1));
        bad("BAD ahead of FULL: lots(1, 0)", BoundaryTest::full, x -> x.lots(1, 0));
        bad("BAD ahead of STATE: turn(4, 0)", BoundaryTest::busy, x -> x.turn(4, 0));
        bad("BAD ahead of STATE: turn(0, 2)", BoundaryTest::busy, x -> x.turn(0, 2));
        bad("BAD ahead of STATE: pay(0, 0)", BoundaryTest::withoutFarms, x -> x.pay(0, 0));
        bad("BAD ahead of STATE: keep(3)", BoundaryTest::withoutFarms, x -> x.keep(3));
        bad("BAD ahead of STATE: where(1000)", BoundaryTest::withoutFarms, x -> x.where(1000));
        bad("BAD ahead of STATE: milk(0, 1, 0)", BoundaryTest::withoutFarms, x -> x.milk(0, 1, 0));
        bad("BAD ahead of STATE: walks(-1)", BoundaryTest::withoutFarms, x -> x.walks(-1));
        bad("BAD ahead of STATE: out(100)", BoundaryTest::withoutFarms, x -> x.out(100));
        bad("BAD ahead of STATE: best(9, 0)", BoundaryTest::withoutFarms, x -> x.best(9, 0));
        bad("BAD ahead of STATE: best(1, 6)", BoundaryTest::withoutFarms, x -> x.best(1, 6));
        bad("BAD ahead of STATE: calf(0, 4)", BoundaryTest::withoutFarms, x -> x.calf(0, 4));
        bad("BAD ahead of STATE: quarrel(0, 1, 1)", BoundaryTest::withoutFarms, x -> x.quarrel(0, 1, 1));
        bad("BAD ahead of STATE: bill(0, 0)", BoundaryTest::withoutFarms, x -> x.bill(0, 0));
        bad("BAD ahead of STATE: odds(0, 9, 0)", BoundaryTest::withoutFarms, x -> x.odds(0, 9, 0));
        bad("BAD ahead of STATE: lots(0, 1)", BoundaryTest::withoutFarms, x -> x.lots(0, 1));
        bad("BAD ahead of FINDING: row(6, -1)", BoundaryTest::busy, x -> x.row(6, -1));
        bad("BAD ahead of FINDING: lay(6, -1, 0)", BoundaryTest::busy, x -> x.lay(6, -1, 0));
        bad("BAD ahead of FINDING: at(-1, 40)", BoundaryTest::busy, x -> x.at(-1, 40));
        bad("BAD ahead of FINDING: copy(3, 0, 6, 0, -1)", BoundaryTest::busy, x -> x.copy(3, 0, 6, 0, -1));
        bad("BAD ahead of FINDING: text(4, -1)", BoundaryTest::busy, x -> x.text(4, -1));
        bad("BAD ahead of FINDING: put(4, -1, 0)", BoundaryTest::busy, x -> x.put(4, -1, 0));
        bad("BAD ahead of FINDING: mark(0, 6)", BoundaryTest::busy, x -> x.mark(0, 6));
        bad("BAD ahead of FINDING: fits(3, 9)", BoundaryTest::busy, x -> x.fits(3, 9));
        bad("BAD ahead of FINDING: sure(3, 1, 1000)", BoundaryTest::busy, x -> x.sure(3, 1, 1000));

        says("What is refused changes nothing but finding(), findings().");
        // Each refused() below holds all against a twin; here a row of them on one object.
        HalvedCow x = busy();
        long digest = x.digest();
        Call[] calls = {y -> y.row(5, 41), y -> y.row(5, -1), y -> y.lay(0, 3, 9), y -> y.tear(3), y -> y.copy(0, 0, 5, 38, 3),
            y -> y.text(0, -1), y -> y.put(0, 35, 0), y -> y.farms(3), y -> y.farms(2), y -> y.turn(0, 1), y -> y.drive(6),
            y -> y.pay(0, 100), y -> y.undo(6), y -> y.keep(3), y -> y.on(1), y -> y.best(9, 5), y -> y.lots(21, 1), y -> y.lots(20, 0)};
        for (int k = 0; k < calls.length; k++) {
            due("refused call " + k, calls[k].on(x) < 0 ? 1 : 0, 1);
            due("refused call " + k + ", then digest()", x.digest(), digest);
            due("refused call " + k + ", then asked()", x.asked(), 4);
        }

        says("FINDINGS: 1 NOTHING (a ROW, a TEXT, kept FARMS that are missing), 2 BEYOND (a place that there is not), 3 UNLIKE (a "
            + "BEAST of another KIND; a number that is none), 4 NOUGHT (shared among none), 5 SIZE (fewer than none; not as many as due).");
        finds("a ROW that is missing", BoundaryTest::busy, y -> y.at(3, 0), 1);
        finds("a TEXT that is missing", BoundaryTest::busy, y -> y.put(2, 0, 0), 1);
        finds("kept FARMS that are missing", BoundaryTest::busy, y -> y.on(1), 1);
        finds("a place that there is not", BoundaryTest::busy, y -> y.at(0, 3), 2);
        finds("a BEAST of another KIND", BoundaryTest::busy, y -> y.mark(0, 1), 3);
        finds("a number that is none", BoundaryTest::busy, y -> y.fits(4, 1), 3);
        finds("shared among none", BoundaryTest::busy, y -> y.mean(1), 4);
        finds("fewer than none", BoundaryTest::busy, y -> y.row(0, -1), 5);
        finds("not as many as due", BoundaryTest::busy, y -> y.fits(0, 1), 5);

        says("in lowest terms, the lower number above 0 (0 by 1)");
        HalvedCow three = with("tab m12 c1a");
        part("3 by 3", three, three.bill(3, 1), 1, 1);
        part("4 by 3", three, three.bill(4, 1), 4, 3);
        part("6 by 12", three, three.odds(0, 1, 6), 1, 2);
        part("7 by 12", three, three.odds(0, 1, 7), 7, 12);
        part("0 by 12", three, three.odds(1, 1, 7), 0, 1);

        says("ROWS 0 .. 5 are rows of 0 to 40 ints, TEXTS 0 .. 3 rows of 0 to 60 bytes, or missing (at first).");
        HalvedCow all = new HalvedCow();
        for (int r = 0; r <= 5; r++) {
            due("at first ROW " + r, all.at(r, 0), FINDING);
            due("row(" + r + ", 40)", all.row(r, 40), 40);
            due("row(" + r + ", 0)", all.row(r, 0), 0);
        }
        for (int t = 0; t <= 3; t++) {
            due("at first TEXT " + t, all.put(t, 0, 0), FINDING);
            due("text(" + t + ", 60)", all.text(t, 60), 60);
            due("text(" + t + ", 0)", all.text(t, 0), 0);
        }
        due("FINDINGS", all.findings(NOTHING), 10);
        edges("row(.., 1)", BoundaryTest::busy, (y, v) -> y.row(v, 1), 0, 5);
        edges("text(.., 1)", BoundaryTest::busy, (y, v) -> y.text(v, 1), 0, 3);

        says("Sets (of BEASTS, of DAYS) are told by bits.");
        HalvedCow six = with("taaaaaaaa m1 c1a c1a c1a c1a c1a c1a");
        due("BEASTS 0, 1, 2", six.part(), 7);
        tells("TURNS 0, 1, 2, 3", six, six.even(), 4, 15);
    }

    private static int faultOf(String signs) {
        HalvedCow x = new HalvedCow();
        write(x, 0, signs);
        return x.fault(0);
    }

    private static String blanks(int n) {
        return " ".repeat(n);
    }

    /** A FAULT is told by its place, and refused by farms() as STATE; without one there are so many BEASTS. */
    private static void reads(String signs, int fault, int beasts) {
        due("fault() of \"" + signs + "\"", faultOf(signs), fault);
        HalvedCow x = new HalvedCow();
        write(x, 0, signs);
        due("farms() of \"" + signs + "\"", x.farms(0), beasts);
        due("count(0) of \"" + signs + "\"", x.count(0), Math.max(0, beasts));
    }

    private static void faulty(String signs, int place) {
        reads(signs, place, STATE);
    }

    private static void termsOfFarms() {
        promise(0);
        says("FARMS are 0 and 1.");
        edges("value(.., 0)", BoundaryTest::busy, (x, v) -> x.value(v, 0), 0, 1);
        edges("pay(.., 1)", BoundaryTest::busy, (x, v) -> x.pay(v, 1), 0, 1);

        says("FARMS (without TURNS, MILK, BEASTS at first) are a TEXT");
        HalvedCow x = new HalvedCow();
        for (int what = 0; what <= 2; what++) {
            due("at first count(" + what + ")", x.count(what), 0);
        }

        says("blanks (32) ahead, between, behind as many as wanted, none within items");
        reads("tam0c1a", NONE, 1);
        reads(" ta m0 c1a ", NONE, 1);
        reads(blanks(53) + "tam0c1a", NONE, 1);
        reads("ta" + blanks(53) + "m0c1a", NONE, 1);
        reads("tam0" + blanks(53) + "c1a", NONE, 1);
        reads("tam0c1a" + blanks(53), NONE, 1);
        reads("tam0c1a" + blanks(50) + "c1a", NONE, 2);
        faulty("t am0c1a", 1);
        faulty("ta bm0c1a", 3);
        faulty("tam 0c1a", 3);
        faulty("tam0 0c1a", 5);
        faulty("tam0c 1a", 5);
        faulty("tam0c1 a", 6);
        faulty("\ttam0c1a", 0);
        faulty("tam0c1a" + (char) 31, 7);
        faulty("tam0c1a" + (char) 33, 7);
        faulty("tam0c1a" + (char) 160, 7);

        says("The first item is t (116) and TURNS (1 to 8 letters a (97): FARM 0, b (98): FARM 1, as many as stand together).");
        faulty("sam0c1a", 0);
        faulty("uam0c1a", 0);
        faulty("am0c1a", 0);
        faulty("tm0c1a", 1);
        faulty("t`m0c1a", 1);
        faulty("tcm0c1a", 1);
        reads("tbm0c1a", NONE, 1);
        reads("tabababam0c1a", NONE, 1);
        reads("tababababm0c1a", NONE, 1);
        faulty("tabababababm0c1a", 9);
        x = with("tb m1 c1a");
        due("one TURN", x.count(1), 1);
        due("b", x.where(0), 1);
        x = with("tabbabaab m1 c1a");
        due("eight TURNS", x.count(1), 8);
        due("the eighth", x.where(7), 1);
        due("the first again", x.where(8), 0);

        says("The second one is m (109) and MILK (1 to 6 figures 0 .. 9, as many as stand together).");
        faulty("tal0c1a", 2);
        faulty("tan0c1a", 2);
        faulty("ta0c1a", 2);
        faulty("tamc1a", 3);
        faulty("tam/c1a", 3);
        faulty("tam:c1a", 3);
        reads("tam9c1a", NONE, 1);
        reads("tam01234c1a", NONE, 1);
        reads("tam012345c1a", NONE, 1);
        faulty("tam0123456c1a", 9);
        x = with("ta m901234 c1a");
        due("six MILKS", x.count(2), 6);
        due("figure 9", x.milk(0, 0, 0), 9);
        due("figure 0", x.milk(0, 1, 1), 0);
        due("the sixth", x.milk(0, 5, 5), 4);

        says("Then BEASTS (1 to 6; 0, 1, .. as they come): a letter, the WORTH (one figure 1 .. 9), whose it is at first (a, b).");
        faulty("tam0", 4);
        reads("tam0x1b", NONE, 1);
        reads("tam0c1ac1ac1ac1ac1a", NONE, 5);
        reads("tam0c1ac1ac1ac1ac1ac1a", NONE, 6);
        faulty("tam0c1ac1ac1ac1ac1ac1ac1a", 22);
        faulty("tam0c0a", 5);
        faulty("tam0c:a", 5);
        reads("tam0c9a", NONE, 1);
        faulty("tam0c10a", 6);
        faulty("tam0c1`", 6);
        faulty("tam0c1c", 6);
        x = with("ta m0 c1b d9a");
        int[][] told = {{0, 1, 1}, {1, 9, 0}};
        for (int i = 0; i < 2; i++) {
            for (int what = 0; what < 3; what++) {
                tells("beast(" + i + ", " + what + ")", x, x.beast(i, what), 1, told[i][what]);
            }
        }

        says("A FAULT is the first place at which it can't go on so (a letter, a figure that is none such, a ninth TURN, a seventh MILK, "
            + "a seventh BEAST: its place; the TEXT's size, if its end comes too early, or there is no BEAST, or there are blanks alone).");
        faulty("xam0c1a", 0);
        faulty("tax0c1a", 2);
        faulty("tamxc1a", 3);
        faulty("tam0a1a", 4);
        faulty("tam0cxa", 5);
        faulty("tam0c1x", 6);
        faulty("taaaaaaaaa", 9);
        faulty("taaaaaaaab", 9);
        faulty("tam0000009", 9);
        faulty("tam0c1ac1ac1ac1ac1ac1a  c", 24);
        faulty("tam0c1ac1ac1ac1ac1ac1az", 22);
        reads("tam0c1ac1ac1ac1ac1ac1a  ", NONE, 6);
        String whole = "ta m0 c1a";
        for (int size = 0; size < whole.length(); size++) {
            faulty(whole.substring(0, size), size);
        }
        reads(whole, NONE, 1);
        faulty(whole + "d", 10);
        faulty(whole + "d2", 11);
        faulty("ta m0   ", 8);
        faulty(" ", 1);
        faulty(blanks(60), 60);
        faulty(blanks(59) + "t", 60);
        faulty(blanks(59) + "u", 59);
        faulty(blanks(58) + "ta", 60);
        faulty(blanks(57) + "tam", 60);
        faulty(blanks(56) + "tam1", 60);
        faulty(blanks(55) + "tam1c", 60);
        faulty(blanks(54) + "tam1c1", 60);
        reads(blanks(53) + "tam1c1a", NONE, 1);
        HalvedCow cut = new HalvedCow();
        for (int size = 0; size < whole.length(); size++) {
            write(cut, 0, whole + " d2b");
            write(cut, 0, whole.substring(0, size));
            due("what stood behind its end does not count", cut.fault(0), size);
        }
    }

    private static void valuesOf(String letter, int kind, int... due) {
        HalvedCow x = with("ta m0 " + letter + "1a " + letter + "9b");
        for (int i = 0; i < 2; i++) {
            tells(letter + ": KIND", x, x.beast(i, 0), 1, kind);
            tells(letter + ": VALUE to FARM 0", x, x.beast(i, 3), 1, due[2 * i]);
            tells(letter + ": VALUE to FARM 1", x, x.beast(i, 4), 1, due[2 * i + 1]);
        }
    }

    private static void termsOfKinds() {
        promise(0);
        says("KINDS of BEASTS and letters: 0 COW (c, 99), 1 DRY (d, 100; a COW), 2 YOUNG (y, 121; a COW), 3 BULL (u, 117; a COW), "
            + "4 HEIFER (h, 104; a YOUNG), 5 OX (x, 120; a BULL).");
        for (int sign = 0; sign < 256; sign++) {
            due("letter " + sign, faultOf("tam0 " + (char) sign + "1a"), "cdyuhx ".indexOf(sign) < 0 ? 5 : sign == ' ' ? 6 : NONE);
        }
        says("To a FARM a BEAST is of VALUE: twice its WORTH; a DRY one its WORTH; a YOUNG one (HEIFER, too) 3 more to FARM 1; a HEIFER "
            + "2 more besides to both; a BULL (OX, too) four times its WORTH to FARM 0; an OX 1 less than a BULL to both.");
        valuesOf("c", 0, 2, 2, 18, 18);
        valuesOf("d", 1, 1, 1, 9, 9);
        valuesOf("y", 2, 2, 5, 18, 21);
        valuesOf("u", 3, 4, 2, 36, 18);
        valuesOf("h", 4, 4, 7, 20, 23);
        valuesOf("x", 5, 3, 1, 35, 17);
    }

    private static void termsOfDays() {
        promise(0);
        says("The SHARED cow is, on DAY d (0, 1, ..), at the FARM that TURNS tell (the first on DAY 0, behind the last one the first again), "
            + "and gives there MILK likewise.");
        String[] turns = {"b", "ab", "aab", "aaab", "aaaab", "aaaaab", "aaaaaab", "aaaaaaab"};
        for (String t : turns) {
            int n = t.length();
            HalvedCow x = with("t" + t + " m1 c1a");
            due(t + ": DAY 0", x.where(0), n == 1 ? 1 : 0);
            due(t + ": the last TURN", x.where(n - 1), 1);
            due(t + ": the first again", x.where(n), n == 1 ? 1 : 0);
            due(t + ": the last again", x.where(2 * n - 1), 1);
            due(t + ": DAY 999", x.where(999), 1000 % n == 0 ? 1 : 0);
        }
        for (int n = 1; n <= 6; n++) {
            HalvedCow x = with("ta m" + "123456".substring(0, n) + " c1a");
            due(n + " MILKS: DAY 0", x.milk(0, 0, 0), 1);
            due(n + " MILKS: the last one", x.milk(0, n - 1, n - 1), n);
            due(n + " MILKS: the first again", x.milk(0, n, n), 1);
            due(n + " MILKS: DAY 999", x.milk(0, 999, 999), 999 % n + 1);
        }

        says("It WALKS on each DAY but 0 on which it is at another FARM than the DAY ahead.");
        HalvedCow ab = with("tab m1 c1a");
        due("on DAY 0, though the last TURN is another's", ab.walks(0), 0);
        due("on DAY 1", ab.walks(1), 1);
        due("from the last TURN to the first", ab.walks(2), 2);
        HalvedCow aba = with("taba m1 c1a");
        due("up to the last TURN", aba.walks(2), 2);
        due("stays from the last TURN to the first", aba.walks(3), 2);
        due("and goes again", aba.walks(4), 3);

        says("TODAY is DAY 0 at first.");
        due("a new object", new HalvedCow().count(3), 0);
        due("new FARMS", ab.count(3), 0);
        due("the next one", ab.day(), 1);

        says("DEEDS are DAYS that go by, a BEAST driven over to the other FARM, a SUM paid by one FARM to the other one (60 at most).");
        for (int kind = 0; kind < 3; kind++) {
            HalvedCow x = with("tab m12 c1a d2b");
            for (int k = 0; k < 60; k++) {
                due("DEED " + k, kind == 0 ? x.day() : kind == 1 ? x.drive(1) : x.pay(0, 1), kind == 0 ? k + 1 : kind == 1 ? k % 2 : 9999 - k);
                due("DEEDS", x.count(4), k + 1);
            }
            due("a 61st DEED", x.day(), FULL);
            due("a 61st DEED", x.drive(0), FULL);
            due("a 61st DEED", x.pay(0, 1), FULL);
            due("a 61st DEED", x.lots(1, 1), FULL);
            due("DEEDS", x.count(4), 60);
        }

        says("What each FARM was PAID is 0 at first.");
        due("a new object", new HalvedCow().count(5), 10000);
        due("new FARMS", with("ta m1 c1a").count(5), 10000);
    }

    // ---- 1 rows, texts, farms

    private static void newObject() {
        promise(1);
        says("No ROWS, TEXTS, TURNS, MILK, BEASTS.");
        HalvedCow x = new HalvedCow();
        for (int what : new int[] {0, 1, 2, 3, 4, 6, 7, 8, 9}) {
            due("count(" + what + ")", x.count(what), 0);
        }
        for (int r = 0; r < 6; r++) {
            int one = r;
            finds("tear(" + r + ")", HalvedCow::new, y -> y.tear(one), NOTHING);
        }
        for (int t = 0; t < 4; t++) {
            int one = t;
            finds("fault(" + t + ")", HalvedCow::new, y -> y.fault(one), NOTHING);
        }
        bad("turn(0, 0)", HalvedCow::new, y -> y.turn(0, 0));
        bad("beast(0, 0)", HalvedCow::new, y -> y.beast(0, 0));
        refused("milk(0, 0, 0)", HalvedCow::new, y -> y.milk(0, 0, 0), STATE, 0);
        due("another object's are its own", busy().count(7) + new HalvedCow().count(7), 5);
    }

    private static void rows() {
        promise(2);
        says("A ROW is there with n ints 0: n.");
        HalvedCow x = new HalvedCow();
        due("row(0, 0)", x.row(0, 0), 0);
        due("count(7)", x.count(7), 1);
        due("no place in it", x.at(0, 0), FINDING);
        due("BEYOND, not NOTHING", x.finding(), BEYOND);
        due("row(5, 40)", x.row(5, 40), 40);
        due("the last place", x.at(5, 39), 1);
        due("no place behind it", x.at(5, 40), FINDING);
        for (int i = 0; i < 40; i++) {
            x.lay(5, i, -1 - i);
        }
        due("shorter", x.row(5, 1), 1);
        due("place 1 is gone", x.at(5, 1), FINDING);
        x.mean(5);
        due("what stood behind its end does not count", x.asked(), 0);
        due("one is no pair, whatever stood behind it", x.fits(5, 1), FINDING);
        due("longer again", x.row(5, 40), 40);
        for (int i = 0; i < 40; i++) {
            due("anew", told(x, 5, i), 0);
        }
        due("count(7)", x.count(7), 2);
        says("BAD: also n above 40; ");
        taken("row(3, 40)", BoundaryTest::busy, y -> y.row(3, 40), 40);
        bad("row(3, 41)", BoundaryTest::busy, y -> y.row(3, 41));
        bad("row(5, 41)", BoundaryTest::busy, y -> y.row(5, 41));
        bad("row(5, MAX)", BoundaryTest::busy, y -> y.row(5, MAX));
        edges("row(.., 0)", BoundaryTest::busy, (y, v) -> y.row(v, 0), 0, 5);
        edges("row(.., 40)", BoundaryTest::busy, (y, v) -> y.row(v, 40), 0, 5);
        says("SIZE: below 0.");
        taken("row(3, 0)", BoundaryTest::busy, y -> y.row(3, 0), 0);
        finds("row(3, -1)", BoundaryTest::busy, y -> y.row(3, -1), SIZE);
        finds("row(5, -1)", BoundaryTest::busy, y -> y.row(5, -1), SIZE);
        finds("row(0, MIN)", BoundaryTest::busy, y -> y.row(0, MIN), SIZE);
    }

    private static void places() {
        promise(3);
        says("Place i of a ROW is v: what it was, told by asked(): 1.");
        HalvedCow x = busy();
        tells("lay(5, 39, MIN)", x, x.lay(5, 39, MIN), 1, 7);
        tells("lay(5, 39, MAX)", x, x.lay(5, 39, MAX), 1, MIN);
        tells("lay(5, 0, -9)", x, x.lay(5, 0, -9), 1, 0);
        due("place 39", told(x, 5, 39), MAX);
        due("place 0", told(x, 5, 0), -9);
        due("place 1", told(x, 5, 1), 0);
        due("place 38", told(x, 5, 38), 0);
        says("BAD; NOTHING; BEYOND.");
        edges("lay(.., 0, 9)", BoundaryTest::busy, (y, v) -> y.lay(v, 0, 9), 0, 5);
        finds("lay(3, 0, 9)", BoundaryTest::busy, y -> y.lay(3, 0, 9), NOTHING);
        finds("NOTHING ahead of BEYOND: lay(3, -1, 9)", BoundaryTest::busy, y -> y.lay(3, -1, 9), NOTHING);
        for (int i : new int[] {-1, 3, 39, 40, MIN, MAX}) {
            finds("lay(0, " + i + ", 9)", BoundaryTest::busy, y -> y.lay(0, i, 9), BEYOND);
        }
        for (int i : new int[] {-1, 40, MIN, MAX}) {
            finds("lay(5, " + i + ", 9)", BoundaryTest::busy, y -> y.lay(5, i, 9), BEYOND);
        }
        finds("lay(1, 0, 9) of an empty one", BoundaryTest::busy, y -> y.lay(1, 0, 9), BEYOND);

        promise(4);
        says("Place i of a ROW, told by asked(): 1.");
        x = busy();
        tells("at(0, 0)", x, x.at(0, 0), 1, 3);
        tells("at(0, 2)", x, x.at(0, 2), 1, 4);
        tells("at(5, 39)", x, x.at(5, 39), 1, 7);
        says("BAD; NOTHING; BEYOND.");
        edges("at(.., 0)", BoundaryTest::busy, (y, v) -> y.at(v, 0), 0, 5);
        finds("at(3, 0)", BoundaryTest::busy, y -> y.at(3, 0), NOTHING);
        finds("NOTHING ahead of BEYOND: at(3, 40)", BoundaryTest::busy, y -> y.at(3, 40), NOTHING);
        for (int i : new int[] {-1, 3, 39, 40, MIN, MAX}) {
            finds("at(0, " + i + ")", BoundaryTest::busy, y -> y.at(0, i), BEYOND);
        }
        for (int i : new int[] {-1, 40, MIN, MAX}) {
            finds("at(5, " + i + ")", BoundaryTest::busy, y -> y.at(5, i), BEYOND);
        }
        finds("at(1, 0) of an empty one", BoundaryTest::busy, y -> y.at(1, 0), BEYOND);

        promise(5);
        says("A ROW is missing: 1.");
        x = busy();
        due("tear(0)", x.tear(0), 1);
        due("tear(1), an empty one", x.tear(1), 1);
        due("tear(5)", x.tear(5), 1);
        due("count(7)", x.count(7), 2);
        due("at(0, 0)", x.at(0, 0), FINDING);
        due("NOTHING", x.finding(), NOTHING);
        due("row(5, 40)", x.row(5, 40), 40);
        due("anew", told(x, 5, 39), 0);
        says("BAD; NOTHING.");
        edges("tear(..)", BoundaryTest::busy, (y, v) -> y.tear(v), 0, 5);
        finds("tear(3)", BoundaryTest::busy, y -> y.tear(3), NOTHING);
        finds("tear(0) again", BoundaryTest::torn, y -> y.tear(0), NOTHING);
    }

    private static HalvedCow torn() {
        HalvedCow x = busy();
        x.tear(0);
        return x;
    }

    private static void rowIs(HalvedCow x, int r, int... vs) {
        for (int i = 0; i < vs.length; i++) {
            due("place " + i, told(x, r, i), vs[i]);
        }
        due("places", x.at(r, vs.length), FINDING);
    }

    private static void copies() {
        promise(6);
        says("n places of a ROW, from one on, come to those of another one (perhaps itself) from one on, as if taken ahead: 1.");
        HalvedCow x = with("ta m1 c1a", 0, 1, 2, 3, 4, 5);
        due("none", x.copy(0, 0, 0, 0, 0), 1);
        due("none, from the end on", x.copy(0, 5, 0, 5, 0), 1);
        rowIs(x, 0, 1, 2, 3, 4, 5);
        due("up by one", x.copy(0, 0, 0, 1, 4), 1);
        rowIs(x, 0, 1, 1, 2, 3, 4);
        due("down by one", x.copy(0, 1, 0, 0, 4), 1);
        rowIs(x, 0, 1, 2, 3, 4, 4);
        due("all upon itself", x.copy(0, 0, 0, 0, 5), 1);
        rowIs(x, 0, 1, 2, 3, 4, 4);
        layAll(x, 5, 9, 9, 9, 9, 9);
        due("the last one to the first", x.copy(0, 4, 5, 0, 1), 1);
        due("the first one to the last", x.copy(0, 0, 5, 4, 1), 1);
        rowIs(x, 5, 4, 9, 9, 9, 1);
        due("all", x.copy(0, 0, 5, 0, 5), 1);
        rowIs(x, 5, 1, 2, 3, 4, 4);
        x.row(1, 40);
        x.row(2, 40);
        x.lay(1, 39, 8);
        due("forty", x.copy(1, 0, 2, 0, 40), 1);
        due("the fortieth", told(x, 2, 39), 8);
        x.row(3, 0);
        due("none of none to none", x.copy(3, 0, 3, 0, 0), 1);
        due("none to the end", x.copy(3, 0, 2, 40, 0), 1);

        says("BAD; SIZE: n below 0; ");
        edges("copy(.., 0, 0, 0, 0)", BoundaryTest::busy, (y, v) -> y.copy(v, 0, 0, 0, 0), 0, 5);
        edges("copy(0, 0, .., 0, 0)", BoundaryTest::busy, (y, v) -> y.copy(0, 0, v, 0, 0), 0, 5);
        taken("copy(5, 39, 0, 0, 0)", BoundaryTest::busy, y -> y.copy(5, 39, 0, 0, 0), 1);
        finds("copy(5, 39, 0, 0, -1)", BoundaryTest::busy, y -> y.copy(5, 39, 0, 0, -1), SIZE);
        finds("copy(0, 0, 0, 0, MIN)", BoundaryTest::busy, y -> y.copy(0, 0, 0, 0, MIN), SIZE);
        finds("SIZE ahead of NOTHING", BoundaryTest::busy, y -> y.copy(3, 0, 0, 0, -1), SIZE);
        finds("SIZE ahead of BEYOND", BoundaryTest::busy, y -> y.copy(0, 4, 0, 0, -1), SIZE);

        says("NOTHING: either; ");
        finds("from none", BoundaryTest::busy, y -> y.copy(3, 0, 0, 0, 1), NOTHING);
        finds("to none", BoundaryTest::busy, y -> y.copy(0, 0, 3, 0, 1), NOTHING);
        finds("none from none", BoundaryTest::busy, y -> y.copy(3, 0, 0, 0, 0), NOTHING);
        finds("none to none", BoundaryTest::busy, y -> y.copy(0, 0, 3, 0, 0), NOTHING);
        finds("NOTHING ahead of BEYOND", BoundaryTest::busy, y -> y.copy(0, 4, 3, 0, 1), NOTHING);

        says("BEYOND: not so many there.");
        taken("copy(0, 0, 5, 37, 3)", BoundaryTest::busy, y -> y.copy(0, 0, 5, 37, 3), 1);
        finds("copy(0, 0, 5, 38, 3)", BoundaryTest::busy, y -> y.copy(0, 0, 5, 38, 3), BEYOND);
        taken("copy(5, 37, 0, 0, 3)", BoundaryTest::busy, y -> y.copy(5, 37, 0, 0, 3), 1);
        finds("copy(5, 38, 0, 0, 3)", BoundaryTest::busy, y -> y.copy(5, 38, 0, 0, 3), BEYOND);
        finds("copy(0, 0, 5, 0, 4)", BoundaryTest::busy, y -> y.copy(0, 0, 5, 0, 4), BEYOND);
        finds("copy(5, 0, 0, 0, 4)", BoundaryTest::busy, y -> y.copy(5, 0, 0, 0, 4), BEYOND);
        finds("copy(1, 0, 0, 0, 1) of an empty one", BoundaryTest::busy, y -> y.copy(1, 0, 0, 0, 1), BEYOND);
        finds("copy(0, 0, 1, 0, 1) to an empty one", BoundaryTest::busy, y -> y.copy(0, 0, 1, 0, 1), BEYOND);
        finds("from -1", BoundaryTest::busy, y -> y.copy(0, -1, 5, 0, 1), BEYOND);
        finds("to -1", BoundaryTest::busy, y -> y.copy(0, 0, 5, -1, 1), BEYOND);
        finds("none from -1", BoundaryTest::busy, y -> y.copy(0, -1, 5, 0, 0), BEYOND);
        finds("none to -1", BoundaryTest::busy, y -> y.copy(0, 0, 5, -1, 0), BEYOND);
        finds("none from behind the end", BoundaryTest::busy, y -> y.copy(0, 4, 5, 0, 0), BEYOND);
        finds("none to behind the end", BoundaryTest::busy, y -> y.copy(5, 0, 0, 4, 0), BEYOND);
        finds("the most", BoundaryTest::busy, y -> y.copy(5, 0, 5, 0, MAX), BEYOND);
        finds("more than an int holds, from", BoundaryTest::busy, y -> y.copy(5, MAX, 5, 0, 1), BEYOND);
        finds("more than an int holds, to", BoundaryTest::busy, y -> y.copy(5, 0, 5, MAX, 1), BEYOND);
        finds("more than an int holds, both", BoundaryTest::busy, y -> y.copy(5, 1, 5, 1, MAX), BEYOND);
        finds("the least, from", BoundaryTest::busy, y -> y.copy(5, MIN, 5, 0, MAX), BEYOND);
        finds("the least, to", BoundaryTest::busy, y -> y.copy(5, 0, 5, MIN, 0), BEYOND);
    }

    private static int meanOf(int... vs) {
        HalvedCow x = new HalvedCow();
        layAll(x, 0, vs);
        due("mean(0)", x.mean(0), 1);
        return x.asked();
    }

    private static int meanOfForty(int v) {
        int[] vs = new int[40];
        Arrays.fill(vs, v);
        return meanOf(vs);
    }

    private static void means() {
        promise(7);
        says("The mean of a ROW's ints, cut, told by asked(): 1.");
        due("of one", meanOf(MIN), MIN);
        due("of one", meanOf(MAX), MAX);
        due("5 by 3", meanOf(2, 2, 1), 1);
        due("6 by 3", meanOf(2, 2, 2), 2);
        due("-5 by 3", meanOf(-2, -2, -1), -1);
        due("-6 by 3", meanOf(-2, -2, -2), -2);
        due("-1 by 2", meanOf(-1, 0), 0);
        due("a sum above an int", meanOf(MAX, MAX), MAX);
        due("a sum below an int", meanOf(MIN, MIN, MIN), MIN);
        due("from one end to the other", meanOf(MIN, MAX), 0);
        due("forty of the most", meanOfForty(MAX), MAX);
        due("forty of the least", meanOfForty(MIN), MIN);
        says("BAD; NOTHING; NOUGHT.");
        edges("mean(..)", BoundaryTest::busy, (y, v) -> y.mean(v), 0, 5);
        finds("mean(3)", BoundaryTest::busy, y -> y.mean(3), NOTHING);
        finds("mean(1)", BoundaryTest::busy, y -> y.mean(1), NOUGHT);
        taken("mean of one 0", () -> with("ta m1 c1a", 0, 0), y -> y.mean(0), 1);
    }

    private static void texts() {
        promise(8);
        says("A TEXT is there with n blanks: n.");
        HalvedCow x = new HalvedCow();
        due("text(0, 0)", x.text(0, 0), 0);
        due("count(8)", x.count(8), 1);
        due("no place in it", x.put(0, 0, 1), FINDING);
        due("BEYOND, not NOTHING", x.finding(), BEYOND);
        due("text(3, 60)", x.text(3, 60), 60);
        for (int i = 0; i < 60; i++) {
            due("a blank", x.put(3, i, 65), 1032);
        }
        due("no place behind them", x.put(3, 60, 65), FINDING);
        due("shorter", x.text(3, 1), 1);
        due("place 1 is gone", x.put(3, 1, 65), FINDING);
        due("longer again", x.text(3, 60), 60);
        for (int i = 0; i < 60; i++) {
            due("anew", x.put(3, i, 66), 1032);
        }
        due("count(8)", x.count(8), 2);
        says("BAD: also n above 60; ");
        taken("text(2, 60)", BoundaryTest::busy, y -> y.text(2, 60), 60);
        bad("text(2, 61)", BoundaryTest::busy, y -> y.text(2, 61));
        bad("text(0, 61)", BoundaryTest::busy, y -> y.text(0, 61));
        bad("text(0, MAX)", BoundaryTest::busy, y -> y.text(0, MAX));
        edges("text(.., 0)", BoundaryTest::busy, (y, v) -> y.text(v, 0), 0, 3);
        edges("text(.., 60)", BoundaryTest::busy, (y, v) -> y.text(v, 60), 0, 3);
        says("SIZE: below 0.");
        taken("text(2, 0)", BoundaryTest::busy, y -> y.text(2, 0), 0);
        finds("text(2, -1)", BoundaryTest::busy, y -> y.text(2, -1), SIZE);
        finds("text(0, -1)", BoundaryTest::busy, y -> y.text(0, -1), SIZE);
        finds("text(0, MIN)", BoundaryTest::busy, y -> y.text(0, MIN), SIZE);

        promise(9);
        says("Byte i of a TEXT is v, cut to a byte: what it was, and 1000 more.");
        x = new HalvedCow();
        x.text(3, 60);
        int[] laid = {0, 127, 128, 255, 256, 383, 384, -1, -128, -129, MIN, MAX, 32};
        int[] bytes = {0, 127, -128, -1, 0, 127, -128, -1, -128, 127, 0, -1, 32};
        int was = 32;
        for (int k = 0; k < laid.length; k++) {
            due("put(3, 59, " + laid[k] + ")", x.put(3, 59, laid[k]), was + 1000);
            was = bytes[k];
        }
        due("put(3, 0, 1)", x.put(3, 0, 1), 1032);
        due("put(3, 0, 1)", x.put(3, 0, 1), 1001);
        says("BAD; NOTHING; BEYOND.");
        edges("put(.., 0, 65)", BoundaryTest::busy, (y, v) -> y.put(v, 0, 65), 0, 3);
        finds("put(2, 0, 65)", BoundaryTest::busy, y -> y.put(2, 0, 65), NOTHING);
        finds("NOTHING ahead of BEYOND: put(2, 60, 65)", BoundaryTest::busy, y -> y.put(2, 60, 65), NOTHING);
        finds("put(1, 0, 65) of an empty one", BoundaryTest::busy, y -> y.put(1, 0, 65), BEYOND);
        taken("put(0, 34, 65)", BoundaryTest::busy, y -> y.put(0, 34, 65), 1098);
        for (int i : new int[] {-1, 35, 59, 60, MIN, MAX}) {
            finds("put(0, " + i + ", 65)", BoundaryTest::busy, y -> y.put(0, i, 65), BEYOND);
        }
    }

    private static HalvedCow fullTextOf(String signs) {
        HalvedCow x = new HalvedCow();
        write(x, 0, signs + blanks(60 - signs.length()));
        return x;
    }

    private static void readings() {
        promise(10);
        says("A FAULT of a TEXT; NONE: there is none.");
        taken("fault(0)", BoundaryTest::busy, y -> y.fault(0), NONE);
        taken("fault(1) of an empty one", BoundaryTest::busy, y -> y.fault(1), 0);
        taken("fault(3)", BoundaryTest::busy, y -> y.fault(3), 6);
        taken("sixty bytes", () -> fullTextOf(SIX), y -> y.fault(0), NONE);
        taken("sixty bytes, too few items", () -> fullTextOf("ta m1"), y -> y.fault(0), 60);
        HalvedCow x = busy();
        long digest = x.digest();
        x.fault(0);
        x.fault(3);
        due("nothing is changed by it", x.digest(), digest);
        says("BAD; NOTHING.");
        edges("fault(..)", BoundaryTest::busy, (y, v) -> y.fault(v), 0, 3);
        finds("fault(2)", BoundaryTest::busy, y -> y.fault(2), NOTHING);

        promise(11);
        says("FARMS by a TEXT (anew: DAY 0, no DEEDS, nothing PAID; kept FARMS go): how many BEASTS.");
        x = full();
        due("kept ahead", x.count(9), 2);
        due("farms(0)", x.farms(0), 6);
        due("DAY 0", x.count(3), 0);
        due("no DEEDS", x.count(4), 0);
        due("nothing PAID", x.count(5), 10000);
        due("kept FARMS go", x.count(9), 0);
        for (int k = 0; k < 3; k++) {
            due("on(" + k + ")", x.on(k), FINDING);
            due("NOTHING", x.finding(), NOTHING);
        }
        due("whose: as at first", x.value(0, 0), 24);
        due("no DEED is left", x.undo(0), 0);
        due("TURNS may be changed again", x.turn(3, 1), 0);
        due("there is room for DEEDS again", x.day(), 1);
        write(x, 3, "tb m7 u9b");
        due("fewer of all", x.farms(3), 1);
        due("BEASTS", x.count(0), 1);
        due("TURNS", x.count(1), 1);
        due("MILKS", x.count(2), 1);
        due("no BEAST 1", x.beast(1, 0), BAD);
        due("no TURN 1", x.turn(1, 0), BAD);
        due("MILK wraps around behind one", x.milk(1, 1, 1), 7);
        says("BAD; NOTHING; STATE: a FAULT. (STATE behind NOTHING.)");
        edges("farms(..)", BoundaryTest::busy, (y, v) -> y.farms(v), 0, 3);
        finds("farms(2)", BoundaryTest::busy, y -> y.farms(2), NOTHING);
        finds("farms(2) without FARMS", BoundaryTest::withoutFarms, y -> y.farms(2), NOTHING);
        refused("farms(3)", BoundaryTest::busy, y -> y.farms(3), STATE, 0);
        refused("farms(3)", BoundaryTest::full, y -> y.farms(3), STATE, 0);
        refused("farms(1), an empty one", BoundaryTest::busy, y -> y.farms(1), STATE, 0);
        refused("farms(3) without FARMS", BoundaryTest::withoutFarms, y -> y.farms(3), STATE, 0);
    }

    private static void beasts() {
        promise(12);
        says("Of a BEAST: 0 the KIND, 1 the WORTH, 2 whose it is, 3 its VALUE to FARM 0, 4 to FARM 1, told by asked(): 1.");
        HalvedCow x = busy();
        int[] first = {0, 5, 0, 10, 10};
        int[] last = {5, 4, 0, 15, 7};
        for (int what = 0; what <= 4; what++) {
            tells("beast(0, " + what + ")", x, x.beast(0, what), 1, first[what]);
            tells("beast(5, " + what + ")", x, x.beast(5, what), 1, last[what]);
        }
        says("BAD.");
        edges("beast(.., 0) of six", BoundaryTest::busy, (y, v) -> y.beast(v, 0), 0, 5);
        edges("beast(.., 4) of one", () -> with("ta m1 c1a"), (y, v) -> y.beast(v, 4), 0, 0);
        edges("beast(0, ..)", BoundaryTest::busy, (y, v) -> y.beast(0, v), 0, 4);
        edges("beast(5, ..)", BoundaryTest::busy, (y, v) -> y.beast(5, v), 0, 4);
        bad("beast(0, 0) of none", BoundaryTest::withoutFarms, y -> y.beast(0, 0));
    }

    private static void marks() {
        promise(13);
        says("a DRY one how much less it is of VALUE than a COW of its WORTH");
        due("WORTH 1", with("ta m1 d1a").mark(0, 1), 1);
        due("WORTH 9", with("ta m1 d9a").mark(0, 1), 9);
        says("a YOUNG one (HEIFER, too) by how much more it is of VALUE to FARM 1 than to FARM 0");
        due("YOUNG", with("ta m1 y1a").mark(0, 2), 3);
        due("HEIFER", with("ta m1 h9b").mark(0, 2), 3);
        says("a BULL (OX, too) by how much more it is of VALUE to FARM 0 than to FARM 1");
        due("BULL", with("ta m1 u1a").mark(0, 3), 2);
        due("BULL", with("ta m1 u9b").mark(0, 3), 18);
        due("OX", with("ta m1 x1a").mark(0, 3), 2);
        due("OX", with("ta m1 x9b").mark(0, 3), 18);
        says("a HEIFER how many other YOUNG ones its FARM has");
        due("none", with("ta m1 h1a").mark(0, 4), 0);
        due("the other FARM's", with("ta m1 h1a y1b h1b").mark(0, 4), 0);
        due("five", with("ta m1 y1a y1a h1a h1a h1a h9a").mark(5, 4), 5);
        due("no COW, BULL", with("ta m1 c1a d1a u1a x1a y1a h1a").mark(5, 4), 1);
        HalvedCow x = with("ta m1 h1a y1b");
        x.drive(0);
        due("driven over", x.mark(0, 4), 1);
        says("an OX how many BEASTS are of less VALUE to FARM 0");
        due("none", with("ta m1 x1a").mark(0, 5), 0);
        due("those ahead of it, too", with("ta m1 c1a x1a").mark(1, 5), 1);
        due("five", with("ta m1 x9b c1a d1b y9a h9a u8b").mark(0, 5), 5);
        due("of 3: 2 is less", with("ta m1 x1a c1a").mark(0, 5), 1);
        due("of 3: alike is not less", with("ta m1 x1a d3a x1b").mark(0, 5), 0);
        due("of 3: 4 is more", with("ta m1 x1a c2a u1b").mark(0, 5), 0);
        due("less to FARM 0 alone counts", with("ta m1 x2a y3a").mark(0, 5), 1);
        says("BAD: also KIND 0; ");
        bad("mark(0, 0)", BoundaryTest::busy, y -> y.mark(0, 0));
        edges("mark(5, ..) of an OX", BoundaryTest::busy, (y, v) -> y.mark(5, v), 1, 5);
        edges("mark(.., 1) of six", BoundaryTest::busy, (y, v) -> y.mark(v, 1), 0, 5);
        edges("mark(.., 1) of one", () -> with("ta m1 d1a"), (y, v) -> y.mark(v, 1), 0, 0);
        bad("mark(0, 1) of none", BoundaryTest::withoutFarms, y -> y.mark(0, 1));
        says("UNLIKE.");
        // By rows the BEASTS of SIX, one of each KIND; by columns KINDS 1 to 5.
        int[][] are = {{0, 0, 0, 0, 0}, {1, 0, 0, 0, 0}, {0, 1, 0, 0, 0}, {0, 0, 1, 0, 0}, {0, 1, 0, 1, 0}, {0, 0, 1, 0, 1}};
        for (int i = 0; i < 6; i++) {
            for (int kind = 1; kind <= 5; kind++) {
                int beast = i;
                int k = kind;
                if (are[i][kind - 1] == 0) {
                    finds("mark(" + i + ", " + kind + ")", BoundaryTest::begun, y -> y.mark(beast, k), UNLIKE);
                } else {
                    due("mark(" + i + ", " + kind + ")", begun().mark(i, kind) >= 0 ? 1 : 0, 1);
                }
            }
        }
    }

    private static void turns() {
        promise(14);
        says("A TURN (0 ..) is a FARM's: whose it was.");
        HalvedCow x = with("tabababab m1 c1a");
        due("turn(0, 1)", x.turn(0, 1), 0);
        due("turn(7, 0)", x.turn(7, 0), 1);
        due("turn(7, 0) again", x.turn(7, 0), 0);
        due("DAY 0", x.where(0), 1);
        due("DAY 7", x.where(7), 0);
        due("DAY 8", x.where(8), 1);
        due("DAY 6 stays", x.where(6), 0);
        says("BAD; STATE: there are DEEDS.");
        edges("turn(.., 0) of eight", () -> with("tabababab m1 c1a"), (y, v) -> y.turn(v, 0), 0, 7);
        edges("turn(.., 0) of four", BoundaryTest::begun, (y, v) -> y.turn(v, 0), 0, 3);
        edges("turn(.., 0) of one", () -> with("tb m1 c1a"), (y, v) -> y.turn(v, 0), 0, 0);
        edges("turn(0, ..)", BoundaryTest::begun, (y, v) -> y.turn(0, v), 0, 1);
        bad("turn(0, 0) of none", BoundaryTest::withoutFarms, y -> y.turn(0, 0));
        taken("no DEED", () -> withDeeds(0), y -> y.turn(0, 1), 0);
        refused("one DEED", () -> withDeeds(1), y -> y.turn(0, 1), STATE, 0);
        refused("sixty DEEDS", () -> withDeeds(60), y -> y.turn(0, 1), STATE, 0);
        refused("a TURN that it is already", BoundaryTest::busy, y -> y.turn(0, 0), STATE, 0);
        x = withDeeds(1);
        x.undo(0);
        due("undone", x.turn(0, 1), 0);
    }

    // ---- 2 deeds

    private static void deeds() {
        promise(15);
        says("A DAY goes by: TODAY.");
        HalvedCow x = withDeeds(0);
        for (int d = 1; d <= 60; d++) {
            due("day()", x.day(), d);
        }
        says("STATE: no BEASTS, or TODAY is DAY 999; FULL: 60 DEEDS. (FULL last.)");
        // With 60 DEEDS at most, and DAY 0 with each new FARMS, no run of calls comes to DAY 999.
        noFarms("day()", y -> y.day());
        taken("the 60th", () -> withDeeds(59), y -> y.day(), 60);
        refused("a 61st", () -> withDeeds(60), y -> y.day(), FULL, 0);
        refused("a 61st", BoundaryTest::full, y -> y.day(), FULL, 0);
        x = withDeeds(60);
        x.undo(59);
        due("one undone", x.day(), 60);

        promise(16);
        says("A BEAST is driven over to the other FARM: whose it is then.");
        x = begun();
        due("drive(0)", x.drive(0), 1);
        due("drive(5)", x.drive(5), 0);
        due("drive(5) back", x.drive(5), 1);
        says("BAD; FULL.");
        edges("drive(..) of six", BoundaryTest::busy, (y, v) -> y.drive(v), 0, 5);
        edges("drive(..) of one", () -> with("ta m1 c1a"), (y, v) -> y.drive(v), 0, 0);
        bad("drive(0) of none", BoundaryTest::withoutFarms, y -> y.drive(0));
        taken("the 60th", () -> withDeeds(59), y -> y.drive(1), 0);
        refused("a 61st", () -> withDeeds(60), y -> y.drive(1), FULL, 0);
        refused("a 61st", BoundaryTest::full, y -> y.drive(5), FULL, 0);

        promise(17);
        says("A FARM pays a SUM (1 .. 99) to the other one: what FARM 0 was PAID less what it PAID, and 10000 more.");
        x = begun();
        due("pay(0, 1)", x.pay(0, 1), 9999);
        due("pay(0, 99)", x.pay(0, 99), 9900);
        due("pay(1, 1)", x.pay(1, 1), 9901);
        due("pay(1, 99)", x.pay(1, 99), 10000);
        for (int farm = 0; farm < 2; farm++) {
            x = begun();
            for (int k = 1; k <= 60; k++) {
                due("the most, again and again", x.pay(farm, 99), 10000 + 99 * k * (farm == 0 ? -1 : 1));
            }
        }
        says("BAD; STATE: no BEASTS; FULL. (FULL last.)");
        edges("pay(.., 99)", BoundaryTest::busy, (y, v) -> y.pay(v, 99), 0, 1);
        edges("pay(0, ..)", BoundaryTest::busy, (y, v) -> y.pay(0, v), 1, 99);
        edges("pay(1, ..)", BoundaryTest::busy, (y, v) -> y.pay(1, v), 1, 99);
        noFarms("pay(0, 1)", y -> y.pay(0, 1));
        taken("the 60th", () -> withDeeds(59), y -> y.pay(1, 9), 10009);
        refused("a 61st", () -> withDeeds(60), y -> y.pay(1, 9), FULL, 0);
        refused("a 61st", BoundaryTest::full, y -> y.pay(0, 99), FULL, 0);
    }

    private static void undoing() {
        promise(18);
        says("DEEDS from number n on are undone: how many.");
        HalvedCow x = withDeeds(60);
        due("from behind the last one on", x.undo(60), 0);
        due("TODAY", x.count(3), 60);
        due("the last one", x.undo(59), 1);
        due("TODAY", x.count(3), 59);
        due("all but one", x.undo(1), 58);
        due("TODAY", x.count(3), 1);
        due("all", x.undo(0), 1);
        due("TODAY", x.count(3), 0);
        due("none", x.undo(0), 0);
        x = busy();
        due("all kinds", x.undo(0), 5);
        due("TODAY", x.count(3), 0);
        due("PAID", x.count(5), 10000);
        due("BEASTS", x.value(0, 0), 24);
        due("TURNS stay as they were", x.where(1), 1);
        due("kept FARMS stay", x.on(2), 3);
        x = busy();
        x.drive(0);
        x.drive(0);
        x.drive(0);
        due("one of three times", x.undo(7), 1);
        tells("whose", x, x.beast(0, 2), 1, 0);
        says("BAD.");
        edges("undo(..) of sixty", () -> withDeeds(60), (y, v) -> y.undo(v), 0, 60);
        edges("undo(..) of five", BoundaryTest::busy, (y, v) -> y.undo(v), 0, 5);
        edges("undo(..) of none", BoundaryTest::begun, (y, v) -> y.undo(v), 0, 0);
        edges("undo(..) without FARMS", BoundaryTest::withoutFarms, (y, v) -> y.undo(v), 0, 0);
    }

    private static void keeping() {
        promise(19);
        says("The FARMS (TODAY, BEASTS, TURNS, SUMS, DEEDS) are kept in a place (0 .. 2): how many DEEDS.");
        HalvedCow x = begun();
        due("keep(0) of none", x.keep(0), 0);
        due("count(9)", x.count(9), 1);
        x.day();
        due("keep(2) of one", x.keep(2), 1);
        due("count(9)", x.count(9), 2);
        due("keep(2) again", x.keep(2), 1);
        due("count(9)", x.count(9), 2);
        due("keep(1)", x.keep(1), 1);
        due("all three", x.count(9), 3);
        due("keep(0) of sixty", full().keep(0), 60);
        due("keep() leaves the FARMS", x.count(3), 1);
        says("BAD; STATE: no BEASTS.");
        edges("keep(..)", BoundaryTest::busy, (y, v) -> y.keep(v), 0, 2);
        noFarms("keep(0)", y -> y.keep(0));
        noFarms("keep(2)", y -> y.keep(2));

        promise(20);
        says("The FARMS are as they were kept: how many DEEDS.");
        x = busy();
        due("on(0)", x.on(0), 0);
        due("TURN 1", x.where(1), 0);
        due("TODAY", x.count(3), 0);
        due("PAID", x.count(5), 10000);
        due("BEASTS", x.value(0, 0), 24);
        due("TURNS may be changed", x.turn(1, 1), 0);
        due("on(0) again", x.on(0), 0);
        due("kept ones are not changed with them", x.where(1), 0);
        due("on(2)", x.on(2), 3);
        due("TURN 1", x.where(1), 1);
        due("TODAY", x.count(3), 1);
        due("PAID", x.count(5), 10007);
        due("BEASTS", x.value(0, 0), 16);
        due("TURNS may not be changed", x.turn(1, 0), STATE);
        due("kept DEEDS", x.undo(2), 1);
        due("on(2) again", x.on(2), 3);
        x.undo(0);
        x.pay(0, 50);
        x.pay(1, 9);
        x.drive(1);
        due("on(2), as if nothing were done since", x.on(2), 3);
        due("the kept SUM", x.undo(2), 1);
        due("PAID", x.count(5), 10000);
        due("the kept BEAST", x.undo(1), 1);
        due("BEASTS", x.value(0, 0), 24);
        due("the kept DAY", x.undo(0), 1);
        due("TODAY", x.count(3), 0);
        x = full();
        x.keep(1);
        x.undo(0);
        due("on(1) of sixty", x.on(1), 60);
        due("a 61st", x.day(), FULL);
        due("all sixty", x.undo(0), 60);
        due("BEASTS", x.value(0, 0), 24);
        due("PAID", x.count(5), 10000);
        says("BAD; NOTHING.");
        edges("on(..)", BoundaryTest::busy, (y, v) -> y.on(v), 0, 2);
        finds("on(1)", BoundaryTest::busy, y -> y.on(1), NOTHING);
        for (int k = 0; k < 3; k++) {
            int place = k;
            finds("on(" + k + ") without FARMS", BoundaryTest::withoutFarms, y -> y.on(place), NOTHING);
        }
    }

    // ---- 3 turns, milk

    private static void daysAndMilk() {
        promise(21);
        says("At which FARM the SHARED cow is on a DAY (0 .. 999).");
        HalvedCow x = with("tbaaab m1 c1a");
        due("DAY 0", x.where(0), 1);
        due("DAY 4", x.where(4), 1);
        due("DAY 998", x.where(998), 0);
        due("DAY 999", x.where(999), 1);
        x.day();
        due("from DAY 0 on, not from TODAY on", x.where(0), 1);
        says("BAD; STATE: no BEASTS.");
        edges("where(..)", BoundaryTest::busy, (y, v) -> y.where(v), 0, 999);
        noFarms("where(0)", y -> y.where(0));
        noFarms("where(999)", y -> y.where(999));

        promise(22);
        says("MILK that a FARM has from a DAY to another one (0 .. 999, both, too).");
        x = with("tab m987654 c1a");
        due("DAY 0 alone", x.milk(0, 0, 0), 9);
        due("DAY 0 alone, the other's", x.milk(1, 0, 0), 0);
        due("DAYS 0, 1", x.milk(1, 0, 1), 8);
        due("DAYS 1, 2", x.milk(0, 1, 2), 7);
        due("DAY 999 alone", x.milk(1, 999, 999), 6);
        due("DAYS 998, 999", x.milk(0, 998, 999), 7);
        due("around the last MILK", x.milk(0, 4, 6), 14);
        due("none of all", with("ta m9 c1a").milk(1, 0, 999), 0);
        due("the most", with("ta m9 c1a").milk(0, 0, 999), 9000);
        says("BAD: also the second ahead of the first; STATE: no BEASTS.");
        taken("milk(0, 7, 7)", BoundaryTest::busy, y -> y.milk(0, 7, 7), 1);
        bad("milk(0, 7, 6)", BoundaryTest::busy, y -> y.milk(0, 7, 6));
        bad("milk(0, 999, 0)", BoundaryTest::busy, y -> y.milk(0, 999, 0));
        edges("milk(.., 0, 0)", BoundaryTest::busy, (y, v) -> y.milk(v, 0, 0), 0, 1);
        edges("milk(0, .., 999)", BoundaryTest::busy, (y, v) -> y.milk(0, v, 999), 0, 999);
        edges("milk(1, 0, ..)", BoundaryTest::busy, (y, v) -> y.milk(1, 0, v), 0, 999);
        edges("milk(1, .., ..)", BoundaryTest::busy, (y, v) -> y.milk(1, v, v), 0, 999);
        noFarms("milk(0, 0, 0)", y -> y.milk(0, 0, 0));
        noFarms("milk(1, 0, 999)", y -> y.milk(1, 0, 999));

        promise(23);
        says("How often the SHARED cow WALKS on DAYS 0 to d (0 .. 999).");
        due("never, DAY 0", with("tab m1 c1a").walks(0), 0);
        due("each DAY but 0", with("tab m1 c1a").walks(999), 999);
        due("each DAY but 0 up to 998", with("tab m1 c1a").walks(998), 998);
        due("never", with("tb m1 c1a").walks(999), 0);
        due("never, though by two TURNS", with("taa m1 c1a").walks(999), 0);
        due("two of eight, and on DAY 8 again", with("taaaaaaab m1 c1a").walks(8), 2);
        due("one of eight", with("taaaaaaab m1 c1a").walks(7), 1);
        due("none of eight", with("taaaaaaab m1 c1a").walks(6), 0);
        says("BAD; STATE: no BEASTS.");
        edges("walks(..)", BoundaryTest::busy, (y, v) -> y.walks(v), 0, 999);
        noFarms("walks(0)", y -> y.walks(0));
        noFarms("walks(999)", y -> y.walks(999));
    }

    private static void outAndRound() {
        promise(24);
        says("The first DAY (0 .. 999) behind which one FARM had more than v (0 .. 99) MILK more than the other one; which by asked().");
        HalvedCow x = with("tb m9 c1a");
        tells("9 is more than 8", x, x.out(8), 0, 1);
        tells("9 is not more than 9", x, x.out(9), 1, 1);
        tells("90 is not more than 90", x, x.out(90), 10, 1);
        tells("99 is not more than 99", x, x.out(99), 11, 1);
        tells("99 is more than 98", x, x.out(98), 10, 1);
        x = with("tba m12 c1a");
        tells("at first FARM 1", x, x.out(0), 0, 1);
        tells("then FARM 0", x, x.out(1), 3, 0);
        x = with("taba m0001 c1a");
        tells("the last DAY", x, x.out(83), 999, 0);
        x = with("tbab m0001 c1a");
        tells("the last DAY", x, x.out(83), 999, 1);
        x = with("ta m1 c1a");
        tells("out(99)", x, x.out(99), 99, 0);
        tells("out(0)", x, x.out(0), 0, 0);
        says("NONE: none.");
        x = with("taba m0001 c7a");
        x.beast(0, 1);
        tells("one more than on the last DAY", x, x.out(84), NONE, 7);
        x = with("tab m1 c7a");
        x.beast(0, 1);
        tells("never more than 1", x, x.out(1), NONE, 7);
        x = with("ta m000000 c7a");
        x.beast(0, 1);
        tells("no MILK", x, x.out(0), NONE, 7);
        says("BAD; STATE: no BEASTS.");
        edges("out(..)", BoundaryTest::busy, (y, v) -> y.out(v), 0, 99);
        noFarms("out(0)", y -> y.out(0));
        noFarms("out(99)", y -> y.out(99));

        promise(25);
        says("DAYS (1 .. 999, the least) behind which TURNS and MILK begin anew together, from DAY 0 on.");
        int[][] due = {{1, 2, 3, 4, 5, 6}, {2, 2, 6, 4, 10, 6}, {3, 6, 3, 12, 15, 6}, {4, 4, 12, 4, 20, 12}, {5, 10, 15, 20, 5, 30},
            {6, 6, 6, 12, 30, 6}, {7, 14, 21, 28, 35, 42}, {8, 8, 24, 8, 40, 24}};
        for (int t = 1; t <= 8; t++) {
            for (int m = 1; m <= 6; m++) {
                due(t + " TURNS, " + m + " MILKS", with("t" + "abbabbba".substring(0, t) + "m" + "123456".substring(0, m) + "c1a").round(), due[t - 1][m - 1]);
            }
        }
        x = with("tab m12 c1a");
        x.day();
        due("from DAY 0 on, not from TODAY on", x.round(), 2);
        says("STATE: no BEASTS.");
        noFarms("round()", y -> y.round());
    }

    private static void bestAndEven() {
        promise(26);
        says("TURNS for n (1 .. 8) DAYS from DAY 0 on (MILK as it is) by which MILK of both differs least, of these with fewest WALKS, "
            + "of these the first (FARM 0 ahead), come to a ROW (anew; each DAY's FARM): by how much it differs; how many WALKS by asked().");
        HalvedCow x = with("tb m9 c1a");
        tells("best(1, 0)", x, x.best(1, 0), 9, 0);
        rowIs(x, 0, 0);
        tells("best(2, 0)", x, x.best(2, 0), 0, 1);
        rowIs(x, 0, 0, 1);
        tells("best(7, 5)", x, x.best(7, 5), 9, 1);
        rowIs(x, 5, 0, 0, 0, 0, 1, 1, 1);
        tells("best(8, 5)", x, x.best(8, 5), 0, 1);
        rowIs(x, 5, 0, 0, 0, 0, 1, 1, 1, 1);
        x = with("tb m0 c1a", 4, 5, 6, 7, 8, 9, 9, 9, 9, 9);
        tells("no MILK", x, x.best(8, 4), 0, 0);
        rowIs(x, 4, 0, 0, 0, 0, 0, 0, 0, 0);
        tells("a longer ROW anew", x, x.best(1, 4), 0, 0);
        rowIs(x, 4, 0);
        due("ROWS", x.count(7), 1);
        x = with("ta m12 c1a");
        tells("MILK goes on from the first again", x, x.best(3, 0), 0, 2);
        rowIs(x, 0, 0, 1, 0);
        x = with("ta m152 c1a");
        tells("least ahead of fewest WALKS", x, x.best(3, 0), 2, 2);
        rowIs(x, 0, 0, 1, 0);
        x = busy();
        tells("from DAY 0 on, not from TODAY on", x, x.best(1, 3), 5, 0);
        due("a ROW that was missing is there", x.count(7), 6);
        due("TURNS stay", x.where(1), 1);
        says("BAD; STATE: no BEASTS.");
        edges("best(.., 0)", BoundaryTest::busy, (y, v) -> y.best(v, 0), 1, 8);
        edges("best(1, ..)", BoundaryTest::busy, (y, v) -> y.best(1, v), 0, 5);
        edges("best(8, ..)", BoundaryTest::busy, (y, v) -> y.best(8, v), 0, 5);
        noFarms("best(1, 0)", y -> y.best(1, 0));
        noFarms("best(8, 3)", y -> y.best(8, 3));

        promise(27);
        says("The least number of TURNS (1 .. 8) changed for which MILK of both is alike over 24 DAYS from 0 on, TURNS as long as now; "
            + "which by asked() (bits; the least of as few).");
        x = with("tab m1 c1a");
        tells("none, over 24 and neither 23 nor 25", x, x.even(), 0, 0);
        x = with("taaabbbb m1 c1a");
        tells("seven TURNS: three of them have four DAYS of 24", x, x.even(), 0, 0);
        x = with("taaaaaaa m1 c1a");
        tells("the three with four DAYS", x, x.even(), 3, 7);
        x = with("taaaaaaaa m1 c1a");
        tells("four of eight, the least", x, x.even(), 4, 15);
        x = with("tbaaaaaaa m1 c1a");
        tells("three of eight, the least", x, x.even(), 3, 14);
        x = with("taaabbbba m1 c1a");
        tells("none of eight", x, x.even(), 0, 0);
        x = with("tb m0 c1a");
        tells("no MILK, one TURN", x, x.even(), 0, 0);
        x = with("taa m10 c1a");
        due("no MILK on the other's DAYS", x.even(), NONE);
        due("TURNS stay", x.where(0), 0);
        x = with("taaaa m1 c1a");
        tells("two of four", x, x.even(), 2, 3);
        x.day();
        tells("from DAY 0 on, not from TODAY on", x, x.even(), 2, 3);
        says("NONE: by none.");
        x = with("ta m1 c7a");
        x.beast(0, 1);
        tells("one TURN", x, x.even(), NONE, 7);
        x = with("tabbab m1 c7a");
        x.beast(0, 1);
        tells("five TURNS of five and four DAYS", x, x.even(), NONE, 7);
        says("STATE: no BEASTS.");
        noFarms("even()", y -> y.even());
    }

    // ---- 4 partings

    private static void values() {
        promise(28);
        says("The VALUE of all BEASTS of a FARM to a FARM.");
        HalvedCow x = with("ta m1 u9a x9a");
        due("none of them", x.value(1, 0), 0);
        due("all to FARM 0", x.value(0, 0), 71);
        due("all to FARM 1", x.value(0, 1), 35);
        x.drive(0);
        due("one each", x.value(1, 0), 36);
        due("one each", x.value(0, 0), 35);
        x.pay(0, 9);
        due("SUMS aside", x.value(1, 0), 36);
        due("no BEASTS", new HalvedCow().value(0, 0), 0);
        due("no BEASTS", new HalvedCow().value(1, 1), 0);
        due("six of the most", with("ta m1 u9b u9b u9b u9b u9b u9b").value(1, 0), 216);
        says("BAD.");
        edges("value(.., 0)", BoundaryTest::busy, (y, v) -> y.value(v, 0), 0, 1);
        edges("value(1, ..)", BoundaryTest::busy, (y, v) -> y.value(1, v), 0, 1);
        edges("value(.., 1) without FARMS", BoundaryTest::withoutFarms, (y, v) -> y.value(v, 1), 0, 1);
        edges("value(0, ..) without FARMS", BoundaryTest::withoutFarms, (y, v) -> y.value(0, v), 0, 1);

        promise(29);
        says("Whether now neither FARM would rather have the other one's BEASTS (each by its own VALUES; what a FARM was PAID less what it "
            + "PAID counts to that one's) (1, 0).");
        due("alike to both", with("ta m1 c5a c5b").fair(), 1);
        due("one less to FARM 0", with("ta m1 x1a c2b").fair(), 0);
        due("alike to FARM 1", with("ta m1 y1a d5b").fair(), 0);
        due("alike to FARM 0, more to FARM 1", with("ta m1 c1a y1b").fair(), 1);
        due("one less to FARM 1", with("ta m1 c2a x2b").fair(), 0);
        due("less to FARM 0 by FARM 1's VALUES alone", with("ta m1 u2a c3b").fair(), 1);
        due("less to FARM 1 by FARM 0's VALUES alone", with("ta m1 c3a y2b").fair(), 1);
        due("less to FARM 1 by FARM 0's VALUES alone", with("ta m1 u9a x1a y9b").fair(), 1);
        due("all FARM 0's", with("ta m1 c1a").fair(), 0);
        due("all FARM 1's", with("ta m1 c1b").fair(), 0);
        for (int paid = 1; paid <= 3; paid++) {
            x = with("ta m1 c3a c1b");
            x.pay(0, paid);
            due("FARM 0 has 4 more, and PAID " + paid, x.fair(), paid == 2 ? 1 : 0);
            x = with("ta m1 c1a c3b");
            x.pay(1, paid);
            due("FARM 1 has 4 more, and PAID " + paid, x.fair(), paid == 2 ? 1 : 0);
        }
        says("STATE: no BEASTS.");
        noFarms("fair()", y -> y.fair());
    }

    private static void partings() {
        promise(30);
        says("In how many ways all BEASTS can be parted so that neither would rather have the other's; the fewest to be driven over so by "
            + "asked() (NONE: in none).");
        HalvedCow x = with("ta m1 c1a");
        tells("one BEAST: in none", x, x.ways(), 0, NONE);
        x = with("ta m1 c1a c2b");
        tells("unlike ones: in none", x, x.ways(), 0, NONE);
        x = with("ta m1 u1a y1b");
        tells("in one", x, x.ways(), 1, 0);
        x = with("ta m1 u1b y1a");
        tells("in one, all to be driven", x, x.ways(), 1, 2);
        x = with("ta m1 c1a c1a c1a c1a c1a c1a");
        tells("three of six", x, x.ways(), 20, 3);
        x = with("ta m1 c1b c1b c1b c1b c1b c1b");
        tells("three of six", x, x.ways(), 20, 3);
        x = with("ta m1 c1a c1b c1a c1b c1a c1b");
        tells("as they are", x, x.ways(), 20, 0);
        x.pay(0, 99);
        tells("SUMS aside", x, x.ways(), 20, 0);
        x.drive(0);
        tells("one is to be driven back", x, x.ways(), 20, 1);
        due("aside", x.count(4), 2);
        says("STATE: no BEASTS.");
        noFarms("ways()", y -> y.ways());

        promise(31);
        says("The parting (FARM 1's BEASTS, bits) by which the lesser of both FARMS' VALUES of their own BEASTS is greatest (the least such "
            + "number); that by asked().");
        x = with("ta m1 c9b");
        tells("one BEAST: none for FARM 1", x, x.part(), 0, 0);
        x = with("ta m1 c1b c1b");
        tells("1 or 2: the least", x, x.part(), 1, 2);
        x = with("ta m1 u1b y1b");
        tells("2", x, x.part(), 2, 4);
        x = with("ta m1 y1a u1a");
        tells("1", x, x.part(), 1, 4);
        x = with("ta m1 c1a c1a c1a c1a c1a c1a");
        tells("three of six, the least", x, x.part(), 7, 6);
        x = with("ta m1 u9a y1a y1a y1a y1a y1a");
        tells("all but the first", x, x.part(), 62, 25);
        x.pay(1, 99);
        tells("SUMS aside", x, x.part(), 62, 25);
        due("aside", x.value(1, 0), 0);
        says("STATE: no BEASTS.");
        noFarms("part()", y -> y.part());
    }

    private static void sums() {
        promise(32);
        says("The least SUM (0 .. 99) with which, paid by some FARM to the other one now, neither would rather have the other's BEASTS and "
            + "SUMS; who pays by asked() (if either does it, 0; if the SUM is 0, NONE).");
        // What FARM 0 has then must not be too little nor too much, so never do both payers do with the same SUM above 0.
        HalvedCow x = with("ta m1 c5a c5b");
        tells("0", x, x.sum(), 0, NONE);
        x.pay(0, 1);
        tells("1 back", x, x.sum(), 1, 1);
        x.pay(1, 2);
        tells("1 back", x, x.sum(), 1, 0);
        x = with("ta m1 c1b");
        tells("FARM 1 pays", x, x.sum(), 1, 1);
        x = with("ta m1 u1b y1b");
        // To FARM 0 it is 6, of which it wants 3; to FARM 1 it is 7, of which it gives 3 at most.
        tells("the least of those that do", x, x.sum(), 3, 1);
        x = with("ta m1 y1a y1a");
        // To FARM 1 it is 10, so 5 are wanted; FARM 0, to which it is 4, gives 2 at most.
        due("what is wanted is more than is given", x.sum(), NONE);
        x = with("ta m1 u1a u1a");
        tells("to FARM 0 it is 8, to FARM 1 it is 4: 2 to 4 do", x, x.sum(), 2, 0);
        x = with("ta m1 c1a c1b");
        x.pay(0, 99);
        tells("99", x, x.sum(), 99, 1);
        x = with("ta m1 c1a c1b");
        x.pay(1, 99);
        tells("99", x, x.sum(), 99, 0);
        due("aside", x.count(5), 10099);
        says("NONE: by none.");
        for (int farm = 0; farm < 2; farm++) {
            x = with("ta m1 c7a c7b");
            x.pay(farm, 99);
            x.pay(farm, 1);
            x.beast(0, 1);
            tells("100", x, x.sum(), NONE, 7);
        }
        x = with("ta m1 y1a u1b");
        x.beast(0, 1);
        tells("by no SUM at all", x, x.sum(), NONE, 1);
        says("STATE: no BEASTS.");
        noFarms("sum()", y -> y.sum());
    }

    private static void heirs() {
        promise(33);
        says("Three heirs, to whom all is of VALUE as to FARM 0: the least by which the greatest and the least part can differ; the first such "
            + "parting by asked() (a number: 3 times that ahead, and the heir, BEAST by BEAST, 0 ahead).");
        HalvedCow x = with("ta m1 c1a");
        tells("one BEAST", x, x.heirs(), 2, 0);
        x = with("ta m1 u9b");
        tells("one BEAST of the most", x, x.heirs(), 36, 0);
        x = with("ta m1 c1a c1a");
        tells("two: one has none; 0, 0 differs more than 0, 1", x, x.heirs(), 2, 1);
        x = with("ta m1 c1a c1a c1a");
        tells("0, 1, 2", x, x.heirs(), 0, 5);
        x = with("ta m1 c1a c1a c1a c1a c1a c1a");
        tells("0, 0, 1, 1, 2, 2", x, x.heirs(), 0, 44);
        x = with("ta m1 c1a c1a c2a");
        tells("0, 1, 2", x, x.heirs(), 2, 5);
        x = with("ta m1 x1a d3b y1b d1a");
        tells("0, 1, 2, 2", x, x.heirs(), 0, 17);
        x.pay(0, 9);
        x.drive(0);
        tells("whose they are does not count", x, x.heirs(), 0, 17);
        says("STATE: no BEASTS.");
        noFarms("heirs()", y -> y.heirs());
    }

    // ---- 5 calves, bills, books

    private static void calves() {
        promise(34);
        says("Whose a calf is that was born on a DAY (0 .. 999), by a reading: 0 at whose FARM the SHARED cow was that DAY");
        HalvedCow x = with("tbaaaa m9 c1a");
        due("DAY 0", x.calf(0, 0), 1);
        due("DAY 999", x.calf(999, 0), 0);
        due("DAY 995", x.calf(995, 0), 1);
        says("1 the DAY ahead (of DAY 0: that DAY)");
        due("DAY 0", x.calf(0, 1), 1);
        due("DAY 0, though the last TURN is another's", with("tab m1 c1a").calf(0, 1), 0);
        due("DAY 1", x.calf(1, 1), 1);
        due("DAY 2", x.calf(2, 1), 0);
        due("DAY 996", x.calf(996, 1), 1);
        due("DAY 999", x.calf(999, 1), 0);
        says("2 who had more MILK up to that DAY (alike: FARM 0)");
        due("DAY 0", x.calf(0, 2), 1);
        due("alike on DAY 1", x.calf(1, 2), 0);
        due("no MILK", with("tb m0 c1a").calf(999, 2), 0);
        due("one more", with("tba m21 c1a").calf(1, 2), 1);
        due("DAY 999", with("tb m1 c1a").calf(999, 2), 1);
        says("3 to whom it comes next by WALKING (of DAYS behind that one; NONE: it never does)");
        due("DAY 0", x.calf(0, 3), 0);
        due("DAY 1", x.calf(1, 3), 1);
        due("from the last TURN to the first", x.calf(4, 3), 1);
        due("it came on that DAY", x.calf(5, 3), 0);
        due("behind DAY 999", x.calf(999, 3), 1);
        due("never, FARM 0's", with("taaaaaaaa m1 c1a").calf(0, 3), NONE);
        due("never, FARM 1's", with("tb m1 c1a").calf(999, 3), NONE);
        due("seven DAYS off", with("taaaaaaab m1 c1a").calf(0, 3), 1);
        says("BAD; STATE: no BEASTS.");
        for (int reading = 0; reading < 4; reading++) {
            int one = reading;
            edges("calf(.., " + reading + ")", BoundaryTest::busy, (y, v) -> y.calf(v, one), 0, 999);
            noFarms("calf(0, " + reading + ")", y -> y.calf(0, one));
        }
        edges("calf(0, ..)", BoundaryTest::busy, (y, v) -> y.calf(0, v), 0, 3);
        edges("calf(999, ..)", BoundaryTest::busy, (y, v) -> y.calf(999, v), 0, 3);
    }

    private static void quarrels() {
        promise(35);
        says("The first DAY from d on (to 999) on which two readings (0 .. 3) tell unlike answers (NONE is unlike any FARM).");
        HalvedCow x = with("taaaab m1 c1a");
        due("that DAY", x.quarrel(4, 0, 1), 4);
        due("the DAY behind", x.quarrel(3, 0, 1), 4);
        due("the other way around", x.quarrel(3, 1, 0), 4);
        due("the next one", x.quarrel(6, 0, 1), 9);
        due("DAY 0", x.quarrel(0, 0, 3), 0);
        due("DAY 999", x.quarrel(999, 0, 1), 999);
        due("DAY 999 from the DAY ahead", x.quarrel(996, 1, 0), 999);
        HalvedCow never = with("tb m1 c1a");
        due("NONE is unlike FARM 1", never.quarrel(0, 3, 0), 0);
        due("NONE is unlike FARM 0", with("ta m1 c1a").quarrel(999, 1, 3), 999);
        HalvedCow lead = with("tabb m900000 c1a");
        due("MILK of the DAYS ahead of d counts", lead.quarrel(3, 1, 2), 3);
        due("MILK of DAY d counts once", with("tba m12 c1a").quarrel(1, 0, 2), 2);
        due("MILK of DAYS behind does not count", with("tba m12 c1a").quarrel(0, 0, 2), 2);
        due("MILK of DAYS up to d alone counts", with("tab m1 c1a").quarrel(1, 0, 2), 1);
        due("MILK of the DAY ahead of d counts", with("tbaab m430000 c1a").quarrel(2, 0, 2), 2);
        says("NONE: none.");
        due("never", never.quarrel(0, 0, 1), NONE);
        due("never", never.quarrel(0, 1, 2), NONE);
        due("the last one is on DAY 996", with("taaab m1 c1a").quarrel(996, 1, 2), 996);
        due("the next one would be on DAY 1000", with("taaab m1 c1a").quarrel(997, 1, 2), NONE);
        due("the next one would be on DAY 1000", with("taaab m1 c1a").quarrel(999, 1, 2), NONE);
        says("BAD: also the same reading; STATE: no BEASTS.");
        for (int reading = 0; reading < 4; reading++) {
            int one = reading;
            bad("quarrel(0, " + reading + ", " + reading + ")", BoundaryTest::busy, y -> y.quarrel(0, one, one));
        }
        edges("quarrel(.., 0, 3)", BoundaryTest::busy, (y, v) -> y.quarrel(v, 0, 3), 0, 999);
        edges("quarrel(0, .., 1)", BoundaryTest::busy, (y, v) -> y.quarrel(0, v, 1), 0, 3);
        edges("quarrel(0, 1, ..)", BoundaryTest::busy, (y, v) -> y.quarrel(0, 1, v), 0, 3);
        bad("the same one, which is none", BoundaryTest::busy, y -> y.quarrel(0, 4, 4));
        noFarms("quarrel(0, 0, 1)", y -> y.quarrel(0, 0, 1));
        noFarms("quarrel(999, 3, 2)", y -> y.quarrel(999, 3, 2));
    }

    private static void bills() {
        promise(36);
        says("A bill (1 .. 9999) is shared by MILK that each had on DAYS 0 to d (0 .. 999): what FARM 0 pays, told by upper(), lower() (half, "
            + "if there was none): 1.");
        HalvedCow x = with("tab m12 c1a");
        part("DAY 0 alone", x, x.bill(1, 0), 1, 1);
        part("DAY 1, too", x, x.bill(1, 1), 1, 3);
        part("the most, DAY 999", x, x.bill(9999, 999), 3333, 1);
        // 500 of 500 and 998, as FARM 1 has one DAY less
        part("DAY 998", x, x.bill(9999, 998), 9999 * 250, 749);
        x = with("tb m9 c1a");
        part("none of it", x, x.bill(9999, 999), 0, 1);
        x = with("tba m31 c1a");
        part("DAY 0 of FARM 1", x, x.bill(8, 1), 2, 1);
        x = with("ta m9 c1a");
        part("all of it", x, x.bill(9999, 999), 9999, 1);
        x = with("tba m001 c1a");
        part("no MILK up to DAY 1: half", x, x.bill(9999, 1), 9999, 2);
        part("no MILK up to DAY 1: half, even", x, x.bill(2, 1), 1, 1);
        part("MILK on DAY 2", x, x.bill(9999, 2), 0, 1);
        x = with("ta m0 c1a");
        part("never any MILK: half of the least", x, x.bill(1, 999), 1, 2);
        says("BAD; STATE: no BEASTS.");
        edges("bill(.., 0)", BoundaryTest::busy, (y, v) -> y.bill(v, 0), 1, 9999);
        edges("bill(1, ..)", BoundaryTest::busy, (y, v) -> y.bill(1, v), 0, 999);
        noFarms("bill(1, 0)", y -> y.bill(1, 0));
        noFarms("bill(9999, 999)", y -> y.bill(9999, 999));
    }

    private static HalvedCow longBook(int pairs) {
        int[] vs = new int[2 * pairs];
        for (int k = 0; k < pairs; k++) {
            vs[2 * k] = 999 - k;
            vs[2 * k + 1] = (999 - k) % 8 == 7 ? 1 : 0;
        }
        return book(vs);
    }

    private static void books() {
        promise(37);
        says("A book with leaves gone, a ROW of pairs (a DAY 0 .. 999, the FARM at which the SHARED cow was): how many TURNS of n (1 .. 8) "
            + "there can have been, told by upper() (lower() is 1); the first by asked() (bits: TURNS of FARM 1; the least; NONE): 1.");
        HalvedCow x = book();
        part("an empty book, 1", x, x.fits(2, 1), 2, 1);
        part("an empty book, 8", x, x.fits(2, 8), 256, 1);
        due("the least", x.asked(), 0);
        x = book(0, 1);
        part("one TURN", x, x.fits(2, 1), 1, 1);
        due("TURN 0", x.asked(), 1);
        part("one of eight", x, x.fits(2, 8), 128, 1);
        due("TURN 0", x.asked(), 1);
        x = book(999, 1);
        part("DAY 999 of 8", x, x.fits(2, 8), 128, 1);
        due("TURN 7", x.asked(), 128);
        part("DAY 999 of 7", x, x.fits(2, 7), 64, 1);
        due("TURN 5", x.asked(), 32);
        x = book(0, 0, 8, 1);
        part("another one on DAY 8 of 8", x, x.fits(2, 8), 0, 1);
        due("NONE", x.asked(), NONE);
        part("on DAY 8 of 7", x, x.fits(2, 7), 32, 1);
        due("TURN 1", x.asked(), 2);
        x = longBook(20);
        part("forty ints", x, x.fits(2, 8), 1, 1);
        due("TURN 7", x.asked(), 128);
        part("forty ints, of 7", x, x.fits(2, 7), 0, 1);
        due("NONE", x.asked(), NONE);
        due("no FARMS are wanted", x.count(0), 0);
        says("BAD; NOTHING; SIZE: not by pairs; UNLIKE. (In this order.)");
        edges("fits(.., 1)", BoundaryTest::busy, (y, v) -> y.fits(v, 1), 0, 5);
        edges("fits(2, ..)", BoundaryTest::busy, (y, v) -> y.fits(2, v), 1, 8);
        bad("BAD ahead of NOTHING: fits(3, 0)", BoundaryTest::busy, y -> y.fits(3, 0));
        bad("BAD ahead of SIZE: fits(0, 9)", BoundaryTest::busy, y -> y.fits(0, 9));
        bad("BAD ahead of UNLIKE: fits(4, 9)", BoundaryTest::busy, y -> y.fits(4, 9));
        finds("fits(3, 1)", BoundaryTest::busy, y -> y.fits(3, 1), NOTHING);
        finds("fits(3, 8) without FARMS", BoundaryTest::withoutFarms, y -> y.fits(3, 8), NOTHING);
        finds("one", () -> book(0), y -> y.fits(2, 1), SIZE);
        finds("thirty-nine", () -> ofSize(39), y -> y.fits(2, 1), SIZE);
        taken("forty", () -> ofSize(40), y -> y.fits(2, 1), 1);
        finds("SIZE ahead of UNLIKE", () -> book(1000, 2, -1), y -> y.fits(2, 1), SIZE);
        taken("DAY 999, FARM 1", () -> book(999, 1), y -> y.fits(2, 1), 1);
        taken("DAY 0, FARM 0", () -> book(0, 0), y -> y.fits(2, 1), 1);
        for (int[] pair : NO_PAIRS) {
            finds("DAY " + pair[0] + ", FARM " + pair[1], () -> book(pair), y -> y.fits(2, 1), UNLIKE);
            finds("the second one: DAY " + pair[0] + ", FARM " + pair[1], () -> book(0, 0, pair[0], pair[1]), y -> y.fits(2, 8), UNLIKE);
            finds("behind two that fit nothing", () -> book(0, 0, 0, 1, pair[0], pair[1]), y -> y.fits(2, 1), UNLIKE);
        }
        finds("the twentieth", BoundaryTest::lastPairWrong, y -> y.fits(2, 8), UNLIKE);
    }

    private static final int[][] NO_PAIRS = {{1000, 0}, {-1, 0}, {0, 2}, {0, -1}, {MAX, 1}, {MIN, 1}, {1, MAX}, {1, MIN}};

    private static HalvedCow ofSize(int n) {
        HalvedCow x = new HalvedCow();
        x.row(2, n);
        return x;
    }

    private static HalvedCow lastPairWrong() {
        HalvedCow x = ofSize(40);
        x.lay(2, 39, 2);
        return x;
    }

    private static void sureOnes() {
        promise(38);
        says("At which FARM it was on a DAY (0 .. 999) by all of these.");
        HalvedCow x = book(0, 1, 999, 0);
        due("DAY 0", x.sure(2, 8, 0), 1);
        due("DAY 8", x.sure(2, 8, 8), 1);
        due("DAY 999", x.sure(2, 8, 999), 0);
        due("DAY 7", x.sure(2, 8, 7), 0);
        due("by one TURN", book(5, 1).sure(2, 1, 999), 1);
        due("the last pair of twenty", longBook(20).sure(2, 8, 980), 0);
        due("upper() is not told", x.upper(), 0);
        says("NONE: by some another one, or there are none.");
        due("DAY 1", x.sure(2, 8, 1), NONE);
        due("DAY 6", x.sure(2, 8, 6), NONE);
        due("an empty book", book().sure(2, 1, 0), NONE);
        due("there are none", book(0, 0, 8, 1).sure(2, 8, 0), NONE);
        due("there are none, another TURN", book(0, 0, 8, 1, 1, 1).sure(2, 8, 1), NONE);
        says("BAD; NOTHING; SIZE; UNLIKE. (In this order.)");
        edges("sure(.., 1, 0)", BoundaryTest::busy, (y, v) -> y.sure(v, 1, 0), 0, 5);
        edges("sure(2, .., 0)", BoundaryTest::busy, (y, v) -> y.sure(2, v, 0), 1, 8);
        edges("sure(2, 4, ..)", BoundaryTest::busy, (y, v) -> y.sure(2, 4, v), 0, 999);
        bad("BAD ahead of NOTHING: sure(3, 1, -1)", BoundaryTest::busy, y -> y.sure(3, 1, -1));
        bad("BAD ahead of NOTHING: sure(3, 0, 0)", BoundaryTest::busy, y -> y.sure(3, 0, 0));
        bad("BAD ahead of SIZE: sure(0, 9, 0)", BoundaryTest::busy, y -> y.sure(0, 9, 0));
        bad("BAD ahead of UNLIKE: sure(4, 1, 1000)", BoundaryTest::busy, y -> y.sure(4, 1, 1000));
        finds("sure(3, 1, 0)", BoundaryTest::busy, y -> y.sure(3, 1, 0), NOTHING);
        finds("sure(3, 8, 999) without FARMS", BoundaryTest::withoutFarms, y -> y.sure(3, 8, 999), NOTHING);
        finds("one", () -> book(0), y -> y.sure(2, 1, 0), SIZE);
        finds("thirty-nine", () -> ofSize(39), y -> y.sure(2, 1, 0), SIZE);
        taken("forty", () -> ofSize(40), y -> y.sure(2, 1, 0), 0);
        finds("SIZE ahead of UNLIKE", () -> book(1000, 2, -1), y -> y.sure(2, 1, 0), SIZE);
        taken("DAY 999, FARM 1", () -> book(999, 1), y -> y.sure(2, 1, 0), 1);
        for (int[] pair : NO_PAIRS) {
            finds("DAY " + pair[0] + ", FARM " + pair[1], () -> book(pair), y -> y.sure(2, 1, 0), UNLIKE);
            finds("the second one: DAY " + pair[0] + ", FARM " + pair[1], () -> book(0, 0, pair[0], pair[1]), y -> y.sure(2, 8, 9), UNLIKE);
            finds("behind two that fit nothing", () -> book(0, 0, 0, 1, pair[0], pair[1]), y -> y.sure(2, 1, 0), UNLIKE);
        }
        finds("the twentieth", BoundaryTest::lastPairWrong, y -> y.sure(2, 8, 0), UNLIKE);
    }

    // ---- 6 chances, lots

    private static void chances() {
        promise(39);
        says("Chances that the SHARED cow dies at a FARM within n (0 .. 8) DAYS from TODAY on, on each by p (0 .. 12) of 12, told by upper(), "
            + "lower(): 1.");
        HalvedCow x = with("tab m1 c1a");
        part("no DAYS", x, x.odds(0, 0, 12), 0, 1);
        part("one DAY, never", x, x.odds(0, 1, 0), 0, 1);
        part("one DAY, the least", x, x.odds(0, 1, 1), 1, 12);
        part("one DAY, nearly sure", x, x.odds(0, 1, 11), 11, 12);
        part("one DAY, sure", x, x.odds(0, 1, 12), 1, 1);
        part("one DAY, the other FARM", x, x.odds(1, 1, 12), 0, 1);
        part("two DAYS, dead on the first", x, x.odds(1, 2, 12), 0, 1);
        part("two DAYS", x, x.odds(1, 2, 1), 11, 144);
        part("eight DAYS, sure", x, x.odds(0, 8, 12), 1, 1);
        part("eight DAYS, never", x, x.odds(1, 8, 0), 0, 1);
        x.day();
        part("from TODAY on, no DAYS", x, x.odds(1, 0, 12), 0, 1);
        part("from TODAY on, one DAY", x, x.odds(1, 1, 12), 1, 1);
        part("from TODAY on, the other FARM", x, x.odds(0, 1, 12), 0, 1);
        x = with("tb m1 c1a");
        part("eight DAYS, the least", x, x.odds(1, 8, 1), 429981696L - 214358881L, 429981696L);
        part("eight DAYS, nearly sure", x, x.odds(1, 8, 11), 429981695L, 429981696L);
        x = with("taaaaaaab m1 c1a");
        part("the eighth DAY counts", x, x.odds(1, 8, 6), 1, 256);
        part("seven DAYS", x, x.odds(1, 7, 6), 0, 1);
        says("BAD; STATE: no BEASTS.");
        edges("odds(.., 8, 1)", BoundaryTest::busy, (y, v) -> y.odds(v, 8, 1), 0, 1);
        edges("odds(0, .., 1)", BoundaryTest::busy, (y, v) -> y.odds(0, v, 1), 0, 8);
        edges("odds(1, 8, ..)", BoundaryTest::busy, (y, v) -> y.odds(1, 8, v), 0, 12);
        edges("odds(1, 0, ..)", BoundaryTest::busy, (y, v) -> y.odds(1, 0, v), 0, 12);
        noFarms("odds(0, 0, 0)", y -> y.odds(0, 0, 0));
        noFarms("odds(1, 8, 12)", y -> y.odds(1, 8, 12));
    }

    private static void lots() {
        promise(40);
        says("n (1 .. 20) DEEDS truly by LOTS of a seed: a number comes from the one ahead by 48271 times it modulo 2147483647, the first from "
            + "the seed (1 .. 2147483646)");
        HalvedCow x = begun();
        // 1 comes to 48271, which is 1 modulo 3.
        due("seed 1: BEAST 48271 / 8 % 6, so 3", x.lots(1, 1), 4);
        tells("BEAST 3", x, x.beast(3, 2), 1, 0);
        due("one DEED", x.count(4), 1);
        x = begun();
        // 2147483646 is 1 below 0, and comes to 48271 below 0: 2147435376, which is 0 modulo 3.
        due("the last seed", x.lots(1, 2147483646), 3);
        due("a DAY goes by", x.count(3), 1);
        x = begun();
        due("twenty", x.lots(20, 1) >= 0 ? 1 : 0, 1);
        due("twenty DEEDS", x.count(4), 20);
        due("the first of them", x.undo(1), 19);
        tells("BEAST 3", x, x.beast(3, 2), 1, 0);
        says("it modulo 3: 0 a DAY goes by (TODAY 999: nothing, no DEED), 1 a BEAST is driven over (it by 8, cut, modulo how many there are), "
            + "2 FARM it by 16, cut, modulo 2 pays it by 64, cut, modulo 9, and 1: how many BEASTS FARM 0 has then.");
        // TODAY is never 999, see day().
        x = with("ta m1 c1a");
        due("of one BEAST", x.lots(1, 1), 0);
        due("of one BEAST, back", x.lots(1, 1), 1);
        // 2 comes to 96542, which is 2 modulo 3: FARM 96542 / 16 % 2, so 1, pays 96542 / 64 % 9, and 1, so 6.
        due("no BEAST is driven", x.lots(1, 2), 1);
        due("PAID", x.count(5), 10006);
        for (int seed = 1; seed < 200; seed++) {
            long lot = seed * 48271L % 2147483647L;
            x = begun();
            x.lots(1, seed);
            long paid = lot % 3 != 2 ? 0 : (lot / 64 % 9 + 1) * (lot / 16 % 2 == 0 ? -1 : 1);
            due("seed " + seed + ": TODAY", x.count(3), lot % 3 == 0 ? 1 : 0);
            due("seed " + seed + ": PAID", x.count(5), 10000 + paid);
            tells("seed " + seed + ": BEAST", x, x.beast((int) (lot / 8 % 6), 2), 1, (int) (lot / 8 % 6 % 2 + (lot % 3 == 1 ? 1 : 0)) % 2);
        }
        says("BAD; STATE: no BEASTS; FULL: with n more there would be more than 60 DEEDS. (FULL last.)");
        edges("lots(.., 1)", BoundaryTest::busy, (y, v) -> y.lots(v, 1), 1, 20);
        edges("lots(1, ..)", BoundaryTest::busy, (y, v) -> y.lots(1, v), 1, 2147483646);
        noFarms("lots(1, 1)", y -> y.lots(1, 1));
        noFarms("lots(20, 2147483646)", y -> y.lots(20, 2147483646));
        x = withDeeds(40);
        due("40 and 20", x.lots(20, 5) >= 0 ? 1 : 0, 1);
        due("DEEDS", x.count(4), 60);
        refused("41 and 20", () -> withDeeds(41), y -> y.lots(20, 5), FULL, 0);
        due("41 and 19", withDeeds(41).lots(19, 5) >= 0 ? 1 : 0, 1);
        due("59 and 1", withDeeds(59).lots(1, 5) >= 0 ? 1 : 0, 1);
        refused("59 and 2", () -> withDeeds(59), y -> y.lots(2, 5), FULL, 0);
        refused("60 and 1", () -> withDeeds(60), y -> y.lots(1, 5), FULL, 0);
        refused("60 and 20", BoundaryTest::full, y -> y.lots(20, 5), FULL, 0);
    }

    // ---- 7 what is told

    private static void whatWasTold() {
        promise(41);
        says("What the latest lay(), at(), mean(), beast(), out(), best(), even(), ways(), part(), sum(), heirs(), fits() that was not refused "
            + "(nor NONE) told; 0 before.");
        due("0 before", new HalvedCow().asked(), 0);
        Call[] tell = {y -> y.lay(0, 0, 5), y -> y.at(0, 2), y -> y.mean(0), y -> y.beast(0, 1), y -> y.out(3), y -> y.best(4, 3),
            y -> y.even(), y -> y.ways(), y -> y.part(), y -> y.sum(), y -> y.heirs(), y -> y.fits(2, 8)};
        int[] told = {3, 4, 2, 5, 0, 1, 15, 0, 30, NONE, 44, 34};
        for (int k = 0; k < tell.length; k++) {
            HalvedCow x = with("taaaaaaaa m5 c5a c5b c5a c5b c5a c5b", 0, 3, 1, 4);
            layAll(x, 2, 0, 0, 1, 1, 5, 1);
            x.lay(0, 0, 777);
            x.lay(0, 0, 3);
            tell[k].on(x);
            due("told by call " + k, x.asked(), told[k]);
        }
        Call[] tellNot = {y -> y.row(3, 2), y -> y.tear(0), y -> y.copy(0, 0, 0, 1, 2), y -> y.text(2, 3), y -> y.put(0, 0, 65),
            y -> y.fault(3), y -> y.farms(0), y -> y.mark(5, 3), y -> y.turn(0, 1), y -> y.day(), y -> y.drive(0), y -> y.pay(0, 1),
            y -> y.undo(0), y -> y.keep(0), y -> y.where(0), y -> y.milk(0, 0, 9), y -> y.walks(9), y -> y.round(), y -> y.value(0, 0),
            y -> y.fair(), y -> y.calf(0, 0), y -> y.quarrel(0, 0, 1), y -> y.bill(9, 9), y -> y.sure(2, 4, 0), y -> y.odds(0, 8, 1),
            y -> y.lots(1, 1), y -> y.upper(), y -> y.lower(), y -> y.count(0), y -> y.finding(), y -> y.findings(1), y -> y.digest()};
        for (int k = 0; k < tellNot.length; k++) {
            HalvedCow x = begun();
            due("call " + k + " is not refused", tellNot[k].on(x) < 0 ? 1 : 0, 0);
            due("told by no call " + k, x.asked(), 4);
        }
        Call[] refuse = {y -> y.lay(0, 3, 5), y -> y.at(0, 3), y -> y.mean(1), y -> y.beast(0, 5), y -> y.out(100), y -> y.best(9, 3),
            y -> y.fits(0, 4), y -> y.even(), y -> y.sum(), y -> with("ta m0 c1a").out(0)};
        HalvedCow x = begun();
        for (int k = 0; k < refuse.length; k++) {
            due("refused, or NONE: call " + k, refuse[k].on(x) < 0 ? 1 : 0, 1);
            due("refused, or NONE: call " + k + ", then asked()", x.asked(), 4);
        }

        promise(42);
        says("The upper number that was told last; 0 before.");
        due("0 before", new HalvedCow().upper(), 0);
        x = busy();
        due("by fits()", x.upper(), 4);
        x.bill(7, 0);
        due("by bill()", x.upper(), 7);
        x.bill(0, 0);
        x.fits(3, 1);
        x.odds(0, 9, 1);
        x.sure(2, 4, 0);
        due("by none that is refused, nor by sure()", x.upper(), 7);
        x.odds(0, 0, 1);
        due("by odds()", x.upper(), 0);

        promise(43);
        says("Its lower number; 1 before.");
        due("1 before", new HalvedCow().lower(), 1);
        x = busy();
        x.bill(1, 3);
        due("by bill()", x.lower(), 3);
        x.bill(10000, 3);
        x.fits(0, 1);
        x.odds(0, 1, 13);
        due("by none that is refused", x.lower(), 3);
        x.fits(2, 4);
        due("by fits()", x.lower(), 1);
        x.odds(0, 8, 1);
        due("by odds()", x.lower() > 1 ? 1 : 0, 1);
    }

    private static void counts() {
        promise(44);
        says("0 BEASTS, 1 TURNS, 2 MILKS (figures), 3 TODAY, 4 DEEDS, 5 what FARM 0 was PAID less what it PAID, and 10000 more, 6 BULLS (OXEN, "
            + "too), 7 ROWS, 8 TEXTS that are there, 9 kept FARMS.");
        int[] fresh = {0, 0, 0, 0, 0, 10000, 0, 0, 0, 0};
        int[] most = {6, 8, 6, 0, 60, 10000 - 60 * 99, 6, 6, 4, 3};
        HalvedCow x = new HalvedCow();
        HalvedCow y = with("tabababab m123456 u1a x1b u9a x9b u5a x5b");
        for (int k = 0; k < 60; k++) {
            y.pay(0, 99);
        }
        for (int k = 0; k < 6; k++) {
            y.row(k, k);
            y.text(k, k);
            y.keep(k);
        }
        for (int what = 0; what <= 9; what++) {
            due("a new object: count(" + what + ")", x.count(what), fresh[what]);
            due("the most: count(" + what + ")", y.count(what), most[what]);
        }
        due("no BULLS", with("ta m1 c1a d1a y1a h1a").count(6), 0);
        due("an OX", with("ta m1 x1a").count(6), 1);
        says("BAD.");
        edges("count(..)", BoundaryTest::busy, (z, v) -> z.count(v), 0, 9);
        edges("count(..) of a new object", HalvedCow::new, (z, v) -> z.count(v), 0, 9);

        promise(45);
        says("The latest FINDING (0 before any).");
        x = new HalvedCow();
        due("0 before any", x.finding(), 0);
        x.row(6, 0);
        x.day();
        x.row(0, 41);
        due("0 behind what is refused by none", x.finding(), 0);
        int[] due = {NOTHING, BEYOND, NOUGHT, SIZE, UNLIKE, NOTHING};
        x.row(1, 0);
        layAll(x, 2, 1000, 0);
        Call[] calls = {z -> z.at(0, 0), z -> z.at(1, 0), z -> z.mean(1), z -> z.row(0, -1), z -> z.fits(2, 1), z -> z.on(0)};
        for (int k = 0; k < due.length; k++) {
            due("call " + k, calls[k].on(x), FINDING);
            due("call " + k + ", then finding()", x.finding(), due[k]);
            due("call " + k + ", then row(0, 0)", x.row(0, 0), 0);
            x.tear(0);
            x.row(6, 0);
            due("stays", x.finding(), due[k]);
        }

        promise(46);
        says("How often a FINDING (1 .. 5) was answered.");
        int[] often = {2, 1, 1, 1, 1};
        for (int f = 1; f <= 5; f++) {
            due("findings(" + f + ") of a new object", new HalvedCow().findings(f), 0);
            due("findings(" + f + ")", x.findings(f), often[f - 1]);
        }
        says("BAD.");
        edges("findings(..)", BoundaryTest::busy, (z, v) -> z.findings(v), 1, 5);
        edges("findings(..) of a new object", HalvedCow::new, (z, v) -> z.findings(v), 1, 5);
    }

    /** Java's wrap-around, by numbers that have none. */
    private static long digestOf(int... vs) {
        BigInteger h = BigInteger.valueOf(17);
        for (int v : vs) {
            h = h.multiply(BigInteger.valueOf(31)).add(BigInteger.valueOf(v));
        }
        return h.longValue();
    }

    private static void digests() {
        promise(47);
        says("h = 17; then h = 31 h + v for each v: count() 0 to 9; whose each TURN is; of each BEAST beast() 0 to 4; of each kept place how "
            + "many DEEDS (-1: missing); of each ROW its size (-1: missing) and places, of each TEXT likewise.");
        HalvedCow x = new HalvedCow();
        due("a new object", x.digest(), digestOf(0, 0, 0, 0, 0, 10000, 0, 0, 0, 0, -1, -1, -1, -1, -1, -1, -1, -1, -1, -1, -1, -1, -1));
        x.row(0, 0);
        x.text(3, 0);
        due("empty is not missing", x.digest(), digestOf(0, 0, 0, 0, 0, 10000, 0, 1, 1, 0, -1, -1, -1, 0, -1, -1, -1, -1, -1, -1, -1, -1, 0));
        x.tear(0);
        due("missing again", x.digest(), digestOf(0, 0, 0, 0, 0, 10000, 0, 0, 1, 0, -1, -1, -1, -1, -1, -1, -1, -1, -1, -1, -1, -1, 0));
        x = with("tba m1 x9b");
        x.keep(2);
        x.pay(0, 99);
        x.keep(0);
        layAll(x, 5, MIN, MAX);
        x.text(3, 2);
        x.put(3, 0, 128);
        x.put(3, 1, 255);
        due("the least and the most", x.digest(), digestOf(1, 2, 1, 0, 1, 9901, 1, 1, 1, 2, 1, 0, 5, 9, 1, 35, 17, 1, -1, 0,
            -1, -1, -1, -1, -1, 2, MIN, MAX, -1, -1, -1, 2, -128, -1));
        long before = x.digest();
        x.at(5, 9);
        x.bill(9, 9);
        x.at(5, 0);
        due("what was told is not in it", x.digest(), before);
    }
}

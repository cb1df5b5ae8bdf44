import java.lang.reflect.Method;
import java.math.BigInteger;
import java.util.ArrayList;
import java.util.Arrays;
import java.util.List;
import java.util.Random;
import java.util.regex.Matcher;
import java.util.regex.Pattern;

/**
 * Long runs of calls by a fixed seed, and each call with numbers at and beyond all boundaries, held against a second,
 * plain writing of the document.
 */
public final class ModelTest {
    private static final int RUNS = 2400;
    /** Behind these what an object answers is free. */
    private static final int CALLS = 512;
    private static final int QUESTIONS = 10;

    private static final String[] CALLS_BY_NAME = {
        "row", "lay", "at", "tear", "copy", "mean", "text", "put", "fault", "farms", "beast", "mark", "turn",
        "day", "drive", "pay", "undo", "keep", "on", "where", "milk", "walks", "out", "round", "best", "even",
        "value", "fair", "ways", "part", "sum", "heirs", "calf", "quarrel", "bill", "fits", "sure", "odds", "lots",
        "count", "findings"};

    public static void main(String[] args) {
        for (int run = 0; run < RUNS; run++) {
            String wrong = new Run(run).go();
            if (wrong != null) {
                System.out.println("run " + run + ": " + wrong);
                System.exit(1);
            }
        }
        System.out.println(RUNS + " runs of up to " + CALLS + " calls as the model has them");
        int tried = 0;
        for (int stage = 0; stage < Sweep.STAGES; stage++) {
            for (String name : CALLS_BY_NAME) {
                tried += new Sweep(stage, name).go();
            }
        }
        System.out.println(tried + " calls at boundaries as the model has them");
    }

    /** One call by its name with all of some numbers, on objects that stand as they stood at first. */
    private static final class Sweep {
        static final int STAGES = 5;
        static final int MIN = Integer.MIN_VALUE, MAX = Integer.MAX_VALUE;
        static final int[] MANY = {MIN, -1, 0, 1, 2, 3, 4, 5, 6, 7, 8, 9, 10, 12, 13, 20, 21, 39, 40, 41, 59, 60, 61, 98, 99, 100, 998, 999,
            1000, 9999, 10000, MAX - 1, MAX};
        static final int[] SOME = {MIN, -1, 0, 1, 3, 4, 5, 6, 8, 9, 12, 13, 998, 999, 1000, MAX};
        static final int[] FEW = {MIN, -1, 0, 1, 2, 5, 6, 40, MAX};
        static final String CHANGE_PLACES_ALONE = "lay copy put";

        final int stage;
        final String name;
        Run run;

        Sweep(int stage, String name) {
            this.stage = stage;
            this.name = name;
        }

        int go() {
            int n = numbersOf(name);
            int[] among = n <= 2 ? MANY : n == 3 ? SOME : FEW;
            int[] v = new int[n];
            int all = 1;
            for (int i = 0; i < n; i++) {
                all *= among.length;
            }
            for (int code = 0; code < all; code++) {
                int rest = code;
                for (int i = 0; i < n; i++) {
                    v[i] = among[rest % among.length];
                    rest /= among.length;
                }
                tryIt(v);
            }
            return all;
        }

        void tryIt(int[] v) {
            if (run == null || run.calls + 1 + QUESTIONS > CALLS) {
                run = new Run(0);
                check(run.setUp(stage));
            }
            long before = run.m.digest();
            check(run.same(name, v));
            check(run.questions());
            if (run.m.digest() != before && !CHANGE_PLACES_ALONE.contains(name)) {
                run = null;
            }
        }

        void check(String wrong) {
            if (wrong != null) {
                System.out.println("stage " + stage + ", " + run.told + ": " + wrong);
                System.exit(1);
            }
        }

        static int numbersOf(String name) {
            for (Method m : HalvedCow.class.getMethods()) {
                if (m.getName().equals(name)) {
                    return m.getParameterCount();
                }
            }
            throw new IllegalStateException("no call " + name);
        }
    }

    private static final class Run {
        final Random random;
        final HalvedCow x = new HalvedCow();
        final Model m = new Model();
        final List<String> told = new ArrayList<>();
        int calls = 0;

        Run(int seed) {
            random = new Random(seed);
        }

        String go() {
            // FARMS are written by some 65 calls at most.
            for (int k = 0; calls + 65 + QUESTIONS <= CALLS; k++) {
                String wrong = k % 40 == 0 && random.nextInt(4) > 0 ? writeFarms() : call(CALLS_BY_NAME[random.nextInt(CALLS_BY_NAME.length)]);
                wrong = wrong == null ? question(random.nextInt(QUESTIONS)) : wrong;
                if (wrong != null) {
                    return told + ": " + wrong;
                }
            }
            String wrong = questions();
            return wrong == null ? null : told + ": " + wrong;
        }

        /** 0: new; 1: ROWS and TEXTS without FARMS; 2: the least FARMS; 3: the most, with 59 DEEDS; 4: with 60, and kept ones. */
        String setUp(int stage) {
            String wrong = null;
            if (stage >= 1) {
                int[] places = {3, 0, 6, -1, 2, 40};
                for (int r = 0; r < 6 && wrong == null; r++) {
                    wrong = places[r] < 0 ? null : same("row", r, places[r]);
                }
                int[][] laid = {{0, 0, 7}, {0, 2, -5}, {2, 0, 999}, {2, 1, 1}, {2, 2, 6}, {2, 4, 1}, {2, 5, 1}, {4, 0, 1000}, {5, 39, 3}};
                for (int k = 0; k < laid.length && wrong == null; k++) {
                    wrong = same("lay", laid[k]);
                }
                wrong = wrong == null ? write(0, stage <= 2 ? "tbm9x1b" : "tabbabaabm503184c5ad6by4au3bh2ax4b") : wrong;
                wrong = wrong == null ? write(3, "tab") : wrong;
                wrong = wrong == null ? same("text", 1, 0) : wrong;
            }
            wrong = wrong == null && stage >= 2 ? same("farms", 0) : wrong;
            wrong = wrong == null && stage >= 4 ? same("keep", 2) : wrong;
            for (int k = 0; stage >= 3 && k < 3 && wrong == null; k++) {
                wrong = same("lots", k == 2 && stage == 3 ? 19 : 20, 77 + k);
                wrong = wrong == null && stage >= 4 && k == 0 ? same("keep", 0) : wrong;
            }
            return wrong;
        }

        String write(int t, String signs) {
            String wrong = same("text", t, signs.length());
            for (int i = 0; i < signs.length() && wrong == null; i++) {
                wrong = same("put", t, i, signs.charAt(i));
            }
            return wrong;
        }

        int among(int... vs) {
            return vs[random.nextInt(vs.length)];
        }

        /** Mostly a number from least to most, now and then one that is none. */
        int about(int least, int most) {
            switch (random.nextInt(14)) {
                case 0:
                    return least - 1;
                case 1:
                    return most + 1;
                case 2:
                    return random.nextInt(20) == 0 ? among(Integer.MIN_VALUE, Integer.MAX_VALUE, -2, 1000000) : least;
                case 3:
                    return most;
                default:
                    return least + random.nextInt(most - least + 1);
            }
        }

        String signs(String letters, int n) {
            StringBuilder s = new StringBuilder();
            for (int i = 0; i < n; i++) {
                s.append(letters.charAt(random.nextInt(letters.length())));
            }
            return s.toString();
        }

        String blanks() {
            return random.nextInt(3) > 0 ? "" : signs(" ", 1 + random.nextInt(2));
        }

        String writeFarms() {
            StringBuilder s = new StringBuilder(blanks());
            s.append('t').append(signs("ab", 1 + random.nextInt(8))).append(blanks());
            s.append('m').append(signs(random.nextInt(4) == 0 ? "01" : "0123456789", 1 + random.nextInt(6))).append(blanks());
            int beasts = 1 + random.nextInt(6);
            for (int i = 0; i < beasts; i++) {
                s.append(signs("cdyuhx", 1)).append(signs("123456789", 1)).append(signs("ab", 1)).append(blanks());
            }
            for (int k = among(0, 0, 0, 1, 2); k > 0; k--) {
                int i = random.nextInt(s.length() + 1);
                String sign = signs(" tmabcdyuhx0129\u00e1", 1);
                s.replace(i, Math.min(s.length(), i + random.nextInt(2)), random.nextInt(3) == 0 ? "" : sign);
            }
            if (s.length() > 60) {
                s.setLength(60);
            }
            int t = random.nextInt(4);
            String wrong = write(t, s.toString());
            wrong = wrong == null ? same("fault", t) : wrong;
            return wrong == null ? same("farms", t) : wrong;
        }

        String call(String name) {
            int r = about(0, 5);
            int beast = about(0, Math.max(0, m.kinds.length() - 1));
            int farm = about(0, 1);
            int d = random.nextInt(3) == 0 ? about(0, 999) : about(0, 12);
            switch (name) {
                case "row": return same(name, r, random.nextInt(2) == 0 ? about(0, 40) : 2 * random.nextInt(4));
                case "lay": return lay(r);
                case "at": return same(name, r, about(0, 5));
                case "tear": return random.nextInt(3) > 0 ? null : same(name, r);
                case "copy": return same(name, r, about(0, 5), about(0, 5), about(0, 5), about(0, 4));
                case "mean": return same(name, r);
                case "text": return random.nextInt(4) > 0 ? null : same(name, about(0, 3), about(0, 60));
                case "put": return same(name, about(0, 3), about(0, 40), among(32, 97, 98, 200, -7, 999, 300));
                case "fault": return same(name, about(0, 3));
                case "farms": return random.nextInt(4) > 0 ? null : same(name, about(0, 3));
                case "beast": return same(name, beast, about(0, 4));
                case "mark": return same(name, beast, about(1, 5));
                case "turn": return same(name, about(0, 7), farm);
                case "day": return same(name);
                case "drive": return same(name, beast);
                case "pay": return same(name, farm, random.nextInt(2) == 0 ? about(1, 99) : about(1, 9));
                case "undo": return same(name, about(0, Math.max(0, m.deeds.size())));
                case "keep": case "on": return same(name, about(0, 2));
                case "where": case "walks": return same(name, d);
                case "milk": return same(name, farm, d, random.nextInt(2) == 0 ? about(0, 999) : d + random.nextInt(9) - 1);
                case "out": return same(name, random.nextInt(2) == 0 ? about(0, 99) : about(0, 20));
                case "best": return same(name, about(1, 8), r);
                case "value": return same(name, farm, about(0, 1));
                case "calf": return same(name, d, about(0, 3));
                case "quarrel": return same(name, d, about(0, 3), about(0, 3));
                case "bill": return same(name, about(1, 9999), d);
                case "fits": return same(name, r, about(1, 8));
                case "sure": return same(name, r, about(1, 8), d);
                case "odds": return same(name, farm, about(0, 8), about(0, 12));
                case "lots": return random.nextInt(3) > 0 ? null : same(name, about(1, 20), random.nextInt(3) == 0 ? about(1, 2147483646) : about(1, 99999));
                case "count": return same(name, about(0, 9));
                case "findings": return same(name, about(1, 5));
                default: return same(name);
            }
        }

        /** ROWS often hold a book, so that fits() and sure() have something to read. */
        String lay(int r) {
            int i = about(0, 7);
            int v = random.nextInt(8) == 0 ? among(Integer.MIN_VALUE, Integer.MAX_VALUE, -1, 2, 1000) : i % 2 == 0 ? about(0, 20) : random.nextInt(2);
            return same("lay", r, i, v);
        }

        String same(String name, int... v) {
            told.add(name + Arrays.toString(v));
            calls++;
            long got = ask(x, name, v);
            long want = m.answer(name, v);
            return got == want ? null : "answered " + got + ", due is " + want;
        }

        String questions() {
            for (int q = 0; q < QUESTIONS; q++) {
                String wrong = question(q);
                if (wrong != null) {
                    return wrong;
                }
            }
            return null;
        }

        String question(int q) {
            calls++;
            switch (q) {
                case 0: return left("asked()", x.asked(), m.asked);
                case 1: return left("upper()", x.upper(), m.upper);
                case 2: return left("lower()", x.lower(), m.lower);
                case 3: return left("finding()", x.finding(), m.finding);
                case 4: return left("digest()", x.digest(), m.digest());
                default: return left("findings()", x.findings(q - 4), m.findings[q - 4]);
            }
        }

        static String left(String what, long got, long want) {
            return got == want ? null : "then " + what + " answered " + got + ", due is " + want;
        }

        static long ask(HalvedCow x, String name, int[] v) {
            switch (name) {
                case "row": return x.row(v[0], v[1]);
                case "lay": return x.lay(v[0], v[1], v[2]);
                case "at": return x.at(v[0], v[1]);
                case "tear": return x.tear(v[0]);
                case "copy": return x.copy(v[0], v[1], v[2], v[3], v[4]);
                case "mean": return x.mean(v[0]);
                case "text": return x.text(v[0], v[1]);
                case "put": return x.put(v[0], v[1], v[2]);
                case "fault": return x.fault(v[0]);
                case "farms": return x.farms(v[0]);
                case "beast": return x.beast(v[0], v[1]);
                case "mark": return x.mark(v[0], v[1]);
                case "turn": return x.turn(v[0], v[1]);
                case "day": return x.day();
                case "drive": return x.drive(v[0]);
                case "pay": return x.pay(v[0], v[1]);
                case "undo": return x.undo(v[0]);
                case "keep": return x.keep(v[0]);
                case "on": return x.on(v[0]);
                case "where": return x.where(v[0]);
                case "milk": return x.milk(v[0], v[1], v[2]);
                case "walks": return x.walks(v[0]);
                case "out": return x.out(v[0]);
                case "round": return x.round();
                case "best": return x.best(v[0], v[1]);
                case "even": return x.even();
                case "value": return x.value(v[0], v[1]);
                case "fair": return x.fair();
                case "ways": return x.ways();
                case "part": return x.part();
                case "sum": return x.sum();
                case "heirs": return x.heirs();
                case "calf": return x.calf(v[0], v[1]);
                case "quarrel": return x.quarrel(v[0], v[1], v[2]);
                case "bill": return x.bill(v[0], v[1]);
                case "fits": return x.fits(v[0], v[1]);
                case "sure": return x.sure(v[0], v[1], v[2]);
                case "odds": return x.odds(v[0], v[1], v[2]);
                case "lots": return x.lots(v[0], v[1]);
                case "count": return x.count(v[0]);
                default: return x.findings(v[0]);
            }
        }
    }

    private static final class Kept {
        String turns;
        List<int[]> deeds;
    }

    /** Holds strings and a list of DEEDS, and reckons everything anew from these at each question. */
    private static final class Model {
        static final int BAD = -1, FULL = -2, STATE = -4, NONE = -9;
        static final Pattern FARMS = Pattern.compile(" *t([ab]{1,8}) *m([0-9]{1,6})((?: *[cdyuhx][1-9][ab]){1,6}) *");
        static final String KINDS = "cdyuhx";

        final List<Integer>[] rows = lists(6);
        final List<Integer>[] texts = lists(4);
        String turns = "";
        String milks = "";
        String kinds = "";
        String worths = "";
        String ownersAtFirst = "";
        List<int[]> deeds = new ArrayList<>();
        final Kept[] kept = new Kept[3];
        int asked = 0;
        long upper = 0;
        long lower = 1;
        int finding = 0;
        final int[] findings = new int[6];

        @SuppressWarnings("unchecked")
        static List<Integer>[] lists(int n) {
            return new List[n];
        }

        static boolean in(int v, int least, int most) {
            return least <= v && v <= most;
        }

        long answer(String name, int[] v) {
            long before = digest();
            Integer bad = badOf(name, v);
            if (bad != null) {
                return bad;
            }
            long answer = answerOf(name, v);
            if (answer == -3 && digest() != before) {
                throw new IllegalStateException("the model changed what it refused");
            }
            return answer;
        }

        int refuse(int which) {
            finding = which;
            findings[which]++;
            return -3;
        }

        int tell(int v) {
            asked = v;
            return 1;
        }

        int tell(long of, long whole) {
            BigInteger a = BigInteger.valueOf(of);
            BigInteger b = BigInteger.valueOf(whole);
            BigInteger g = a.gcd(b);
            upper = a.divide(g).longValue();
            lower = b.divide(g).longValue();
            return 1;
        }

        Integer badOf(String name, int[] v) {
            boolean good = true;
            switch (name) {
                case "row": good = in(v[0], 0, 5) && v[1] <= 40; break;
                case "lay": case "at": case "tear": case "mean": good = in(v[0], 0, 5); break;
                case "copy": good = in(v[0], 0, 5) && in(v[2], 0, 5); break;
                case "text": good = in(v[0], 0, 3) && v[1] <= 60; break;
                case "put": case "fault": case "farms": good = in(v[0], 0, 3); break;
                case "beast": good = in(v[0], 0, kinds.length() - 1) && in(v[1], 0, 4); break;
                case "mark": good = in(v[0], 0, kinds.length() - 1) && in(v[1], 1, 5); break;
                case "turn": good = in(v[0], 0, turns.length() - 1) && in(v[1], 0, 1); break;
                case "drive": good = in(v[0], 0, kinds.length() - 1); break;
                case "pay": good = in(v[0], 0, 1) && in(v[1], 1, 99); break;
                case "undo": good = in(v[0], 0, deeds.size()); break;
                case "keep": case "on": good = in(v[0], 0, 2); break;
                case "where": case "walks": good = in(v[0], 0, 999); break;
                case "milk": good = in(v[0], 0, 1) && in(v[1], 0, 999) && in(v[2], v[1], 999); break;
                case "out": good = in(v[0], 0, 99); break;
                case "best": good = in(v[0], 1, 8) && in(v[1], 0, 5); break;
                case "value": good = in(v[0], 0, 1) && in(v[1], 0, 1); break;
                case "calf": good = in(v[0], 0, 999) && in(v[1], 0, 3); break;
                case "quarrel": good = in(v[0], 0, 999) && in(v[1], 0, 3) && in(v[2], 0, 3) && v[1] != v[2]; break;
                case "bill": good = in(v[0], 1, 9999) && in(v[1], 0, 999); break;
                case "fits": good = in(v[0], 0, 5) && in(v[1], 1, 8); break;
                case "sure": good = in(v[0], 0, 5) && in(v[1], 1, 8) && in(v[2], 0, 999); break;
                case "odds": good = in(v[0], 0, 1) && in(v[1], 0, 8) && in(v[2], 0, 12); break;
                case "lots": good = in(v[0], 1, 20) && in(v[1], 1, 2147483646); break;
                case "count": good = in(v[0], 0, 9); break;
                case "findings": good = in(v[0], 1, 5); break;
                default: break;
            }
            if (!good) {
                return BAD;
            }
            boolean needsBeasts = List.of("day", "pay", "keep", "where", "milk", "walks", "out", "round", "best", "even", "fair",
                "ways", "part", "sum", "heirs", "calf", "quarrel", "bill", "odds", "lots").contains(name);
            return needsBeasts && kinds.isEmpty() ? (Integer) STATE : null;
        }

        long answerOf(String name, int[] v) {
            switch (name) {
                case "row": return anew(rows, v[0], v[1], 0);
                case "text": return anew(texts, v[0], v[1], 32);
                case "lay": case "at": return place(name, v);
                case "put": return put(v[0], v[1], v[2]);
                case "tear": return rows[v[0]] == null ? refuse(1) : tear(v[0]);
                case "copy": return copy(v[0], v[1], v[2], v[3], v[4]);
                case "mean": return mean(rows[v[0]]);
                case "fault": return texts[v[0]] == null ? refuse(1) : fault(v[0]);
                case "farms": return texts[v[0]] == null ? refuse(1) : farms(v[0]);
                case "beast": return tell(beast(v[0], v[1]));
                case "mark": return mark(v[0], v[1]);
                case "turn": return turn(v[0], v[1]);
                case "day": return today() == 999 ? STATE : deed(0, 0, 0) ? today() : FULL;
                case "drive": return deed(1, v[0], 0) ? owner(v[0]) : FULL;
                case "pay": return deed(2, v[0], v[1]) ? paid() + 10000 : FULL;
                case "undo": return undo(v[0]);
                case "keep": return keep(v[0]);
                case "on": return on(v[0]);
                case "where": return farm(v[0]);
                case "milk": return milk(v[0], v[1], v[2]);
                case "walks": return walks(v[0]);
                case "out": return out(v[0]);
                case "round": return round();
                case "best": return best(v[0], v[1]);
                case "even": return even();
                case "value": return value(owners(), v[0], v[1]);
                case "fair": return fair(owners(), paid()) ? 1 : 0;
                case "ways": return ways();
                case "part": return part();
                case "sum": return sum();
                case "heirs": return heirs();
                case "calf": return calf(v[0], v[1]);
                case "quarrel": return quarrel(v[0], v[1], v[2]);
                case "bill": return bill(v[0], v[1]);
                case "fits": return fits(v[0], v[1]);
                case "sure": return sure(v[0], v[1], v[2]);
                case "odds": return odds(v[0], v[1], v[2]);
                case "lots": return lots(v[0], v[1]);
                case "count": return count(v[0]);
                default: return findings[v[0]];
            }
        }

        long anew(List<Integer>[] among, int r, int n, int filler) {
            if (n < 0) {
                return refuse(5);
            }
            among[r] = new ArrayList<>();
            for (int i = 0; i < n; i++) {
                among[r].add(filler);
            }
            return n;
        }

        long place(String name, int[] v) {
            List<Integer> row = rows[v[0]];
            if (row == null) {
                return refuse(1);
            }
            if (!in(v[1], 0, row.size() - 1)) {
                return refuse(2);
            }
            return tell(name.equals("lay") ? row.set(v[1], v[2]) : row.get(v[1]));
        }

        long put(int t, int i, int v) {
            if (texts[t] == null) {
                return refuse(1);
            }
            if (!in(i, 0, texts[t].size() - 1)) {
                return refuse(2);
            }
            return texts[t].set(i, (int) (byte) v) + 1000;
        }

        long tear(int r) {
            rows[r] = null;
            return 1;
        }

        long copy(int r, int i, int to, int j, int n) {
            if (n < 0) {
                return refuse(5);
            }
            if (rows[r] == null || rows[to] == null) {
                return refuse(1);
            }
            if (i < 0 || j < 0 || (long) i + n > rows[r].size() || (long) j + n > rows[to].size()) {
                return refuse(2);
            }
            List<Integer> taken = new ArrayList<>(rows[r].subList(i, i + n));
            for (int k = 0; k < n; k++) {
                rows[to].set(j + k, taken.get(k));
            }
            return 1;
        }

        long mean(List<Integer> row) {
            if (row == null) {
                return refuse(1);
            }
            if (row.isEmpty()) {
                return refuse(4);
            }
            BigInteger all = BigInteger.ZERO;
            for (int v : row) {
                all = all.add(BigInteger.valueOf(v));
            }
            return tell(all.divide(BigInteger.valueOf(row.size())).intValueExact());
        }

        String signs(int t) {
            StringBuilder s = new StringBuilder();
            for (int v : texts[t]) {
                s.append((char) (v & 255));
            }
            return s.toString();
        }

        /** The first sign with which no more TEXT of FARMS could begin. */
        long fault(int t) {
            String s = signs(t);
            for (int i = 1; i <= s.length(); i++) {
                Matcher begun = FARMS.matcher(s.substring(0, i));
                if (!begun.matches() && !begun.hitEnd()) {
                    return i - 1;
                }
            }
            return FARMS.matcher(s).matches() ? NONE : s.length();
        }

        long farms(int t) {
            Matcher whole = FARMS.matcher(signs(t));
            if (!whole.matches()) {
                return STATE;
            }
            turns = whole.group(1);
            milks = whole.group(2);
            kinds = "";
            worths = "";
            ownersAtFirst = "";
            String beasts = whole.group(3).replace(" ", "");
            for (int i = 0; i < beasts.length(); i += 3) {
                kinds += beasts.charAt(i);
                worths += beasts.charAt(i + 1);
                ownersAtFirst += beasts.charAt(i + 2);
            }
            deeds = new ArrayList<>();
            Arrays.fill(kept, null);
            return kinds.length();
        }

        int worth(int i) {
            return worths.charAt(i) - '0';
        }

        int valueTo(int i, int farm) {
            int w = worth(i);
            switch (kinds.charAt(i)) {
                case 'd': return w;
                case 'y': return 2 * w + 3 * farm;
                case 'h': return 2 * w + 3 * farm + 2;
                case 'u': return farm == 0 ? 4 * w : 2 * w;
                case 'x': return (farm == 0 ? 4 * w : 2 * w) - 1;
                default: return 2 * w;
            }
        }

        int owner(int i) {
            return owners().charAt(i) - 'a';
        }

        String owners() {
            char[] now = ownersAtFirst.toCharArray();
            for (int[] deed : deeds) {
                if (deed[0] == 1) {
                    now[deed[1]] = now[deed[1]] == 'a' ? 'b' : 'a';
                }
            }
            return new String(now);
        }

        int today() {
            int d = 0;
            for (int[] deed : deeds) {
                d += deed[0] == 0 ? 1 : 0;
            }
            return d;
        }

        int paid() {
            int all = 0;
            for (int[] deed : deeds) {
                if (deed[0] == 2) {
                    all += deed[1] == 1 ? deed[2] : -deed[2];
                }
            }
            return all;
        }

        int beast(int i, int what) {
            return new int[] {KINDS.indexOf(kinds.charAt(i)), worth(i), owner(i), valueTo(i, 0), valueTo(i, 1)}[what];
        }

        long mark(int i, int kind) {
            String alike = new String[] {"", "d", "yh", "ux", "h", "x"}[kind];
            if (alike.indexOf(kinds.charAt(i)) < 0) {
                return refuse(3);
            }
            int n = 0;
            for (int k = 0; k < kinds.length(); k++) {
                boolean otherYoung = k != i && "yh".indexOf(kinds.charAt(k)) >= 0 && owner(k) == owner(i);
                n += kind == 4 && otherYoung || kind == 5 && valueTo(k, 0) < valueTo(i, 0) ? 1 : 0;
            }
            return new int[] {0, worth(i), 3, 2 * worth(i), n, n}[kind];
        }

        long turn(int k, int farm) {
            if (!deeds.isEmpty()) {
                return STATE;
            }
            int was = turns.charAt(k) - 'a';
            turns = turns.substring(0, k) + (char) ('a' + farm) + turns.substring(k + 1);
            return was;
        }

        boolean deed(int kind, int what, int sum) {
            return deeds.size() < 60 && deeds.add(new int[] {kind, what, sum});
        }

        long undo(int n) {
            int undone = deeds.size() - n;
            deeds = new ArrayList<>(deeds.subList(0, n));
            return undone;
        }

        long keep(int k) {
            kept[k] = new Kept();
            kept[k].turns = turns;
            kept[k].deeds = new ArrayList<>(deeds);
            return deeds.size();
        }

        long on(int k) {
            if (kept[k] == null) {
                return refuse(1);
            }
            turns = kept[k].turns;
            deeds = new ArrayList<>(kept[k].deeds);
            return deeds.size();
        }

        int farm(int d) {
            return turns.charAt(d % turns.length()) - 'a';
        }

        int milkOn(int d) {
            return milks.charAt(d % milks.length()) - '0';
        }

        int milk(int farm, int from, int to) {
            int all = 0;
            for (int d = from; d <= to; d++) {
                all += farm(d) == farm ? milkOn(d) : 0;
            }
            return all;
        }

        long walks(int d) {
            int n = 0;
            for (int e = d; e > 0; e--) {
                n += farm(e) == farm(e - 1) ? 0 : 1;
            }
            return n;
        }

        long out(int v) {
            int[] had = new int[2];
            for (int d = 0; d <= 999; d++) {
                had[farm(d)] += milkOn(d);
                for (int f = 0; f < 2; f++) {
                    if (had[f] > had[1 - f] + v) {
                        tell(f);
                        return d;
                    }
                }
            }
            return NONE;
        }

        long round() {
            BigInteger a = BigInteger.valueOf(turns.length());
            BigInteger b = BigInteger.valueOf(milks.length());
            return a.multiply(b).divide(a.gcd(b)).longValue();
        }

        /** All strings of a and b of this length, in their order. */
        static List<String> allTurns(int n) {
            List<String> all = new ArrayList<>(List.of(""));
            for (int k = 0; k < n; k++) {
                List<String> longer = new ArrayList<>();
                for (String s : all) {
                    longer.add(s + "a");
                    longer.add(s + "b");
                }
                all = longer;
            }
            return all;
        }

        long best(int n, int r) {
            String best = null;
            int bestGap = 0;
            int bestWalks = 0;
            for (String s : allTurns(n)) {
                int[] had = new int[2];
                int walks = 0;
                for (int d = 0; d < n; d++) {
                    had[s.charAt(d) - 'a'] += milkOn(d);
                    walks += d > 0 && s.charAt(d) != s.charAt(d - 1) ? 1 : 0;
                }
                int gap = Math.abs(had[0] - had[1]);
                if (best == null || gap < bestGap || gap == bestGap && walks < bestWalks) {
                    best = s;
                    bestGap = gap;
                    bestWalks = walks;
                }
            }
            rows[r] = new ArrayList<>();
            for (char c : best.toCharArray()) {
                rows[r].add(c - 'a');
            }
            tell(bestWalks);
            return bestGap;
        }

        long even() {
            int best = -1;
            for (int set = 0; set < 1 << turns.length(); set++) {
                int gap = 0;
                for (int d = 0; d < 24; d++) {
                    boolean changed = (set >> d % turns.length()) % 2 == 1;
                    gap += (farm(d) == 0) != changed ? milkOn(d) : -milkOn(d);
                }
                if (gap == 0 && (best < 0 || Integer.bitCount(set) < Integer.bitCount(best))) {
                    best = set;
                }
            }
            if (best < 0) {
                return NONE;
            }
            tell(best);
            return Integer.bitCount(best);
        }

        int value(String owners, int of, int to) {
            int all = 0;
            for (int i = 0; i < owners.length(); i++) {
                all += owners.charAt(i) == 'a' + of ? valueTo(i, to) : 0;
            }
            return all;
        }

        boolean fair(String owners, int paid) {
            boolean content0 = value(owners, 0, 0) + paid >= value(owners, 1, 0) - paid;
            boolean content1 = value(owners, 1, 1) - paid >= value(owners, 0, 1) + paid;
            return content0 && content1;
        }

        int bitsOf(String owners) {
            int set = 0;
            for (int i = 0; i < owners.length(); i++) {
                set += owners.charAt(i) == 'b' ? 1 << i : 0;
            }
            return set;
        }

        long ways() {
            int n = 0;
            int fewest = NONE;
            for (String s : allTurns(kinds.length())) {
                if (fair(s, 0)) {
                    n++;
                    int driven = Integer.bitCount(bitsOf(s) ^ bitsOf(owners()));
                    fewest = n == 1 || driven < fewest ? driven : fewest;
                }
            }
            tell(fewest);
            return n;
        }

        long part() {
            int best = -1;
            int bestSet = 0;
            for (String s : allTurns(kinds.length())) {
                int lesser = Math.min(value(s, 0, 0), value(s, 1, 1));
                if (lesser > best || lesser == best && bitsOf(s) < bestSet) {
                    best = lesser;
                    bestSet = bitsOf(s);
                }
            }
            tell(best);
            return bestSet;
        }

        long sum() {
            for (int s = 0; s <= 99; s++) {
                for (int payer = 0; payer < 2; payer++) {
                    if (fair(owners(), paid() + (payer == 0 ? -s : s))) {
                        tell(s == 0 ? NONE : payer);
                        return s;
                    }
                }
            }
            return NONE;
        }

        int leastGap;
        int leastParting;

        long heirs() {
            leastGap = Integer.MAX_VALUE;
            handOut(0, 0, new int[3]);
            tell(leastParting);
            return leastGap;
        }

        void handOut(int i, int parting, int[] parts) {
            if (i == kinds.length()) {
                int[] sorted = parts.clone();
                Arrays.sort(sorted);
                if (sorted[2] - sorted[0] < leastGap) {
                    leastGap = sorted[2] - sorted[0];
                    leastParting = parting;
                }
                return;
            }
            for (int heir = 0; heir < 3; heir++) {
                parts[heir] += valueTo(i, 0);
                handOut(i + 1, 3 * parting + heir, parts);
                parts[heir] -= valueTo(i, 0);
            }
        }

        int calf(int d, int reading) {
            switch (reading) {
                case 0: return farm(d);
                case 1: return d == 0 ? farm(0) : farm(d - 1);
                case 2: return milk(1, 0, d) > milk(0, 0, d) ? 1 : 0;
                default:
                    for (int e = d + 1; e < d + 100; e++) {
                        if (farm(e) != farm(e - 1)) {
                            return farm(e);
                        }
                    }
                    return NONE;
            }
        }

        long quarrel(int d, int a, int b) {
            for (int e = d; e <= 999; e++) {
                if (calf(e, a) != calf(e, b)) {
                    return e;
                }
            }
            return NONE;
        }

        long bill(int sum, int d) {
            int all = milk(0, 0, d) + milk(1, 0, d);
            return all == 0 ? tell(sum, 2L) : tell((long) sum * milk(0, 0, d), all);
        }

        int findingOfBook(List<Integer> book) {
            if (book == null) {
                return 1;
            }
            if (book.size() % 2 == 1) {
                return 5;
            }
            for (int i = 0; i < book.size(); i++) {
                if (!in(book.get(i), 0, i % 2 == 0 ? 999 : 1)) {
                    return 3;
                }
            }
            return 0;
        }

        static List<Integer> fitting(List<Integer> book, int n) {
            List<Integer> sets = new ArrayList<>();
            for (int set = 0; set < 1 << n; set++) {
                boolean fits = true;
                for (int i = 0; i < book.size(); i += 2) {
                    fits &= (set >> book.get(i) % n & 1) == book.get(i + 1);
                }
                if (fits) {
                    sets.add(set);
                }
            }
            return sets;
        }

        long fits(int r, int n) {
            int wrong = findingOfBook(rows[r]);
            if (wrong > 0) {
                return refuse(wrong);
            }
            List<Integer> sets = fitting(rows[r], n);
            tell(sets.isEmpty() ? NONE : sets.get(0));
            return tell(sets.size(), 1L);
        }

        long sure(int r, int n, int d) {
            int wrong = findingOfBook(rows[r]);
            if (wrong > 0) {
                return refuse(wrong);
            }
            int answer = NONE;
            for (int set : fitting(rows[r], n)) {
                int farm = set >> d % n & 1;
                if (answer == 1 - farm) {
                    return NONE;
                }
                answer = farm;
            }
            return answer;
        }

        /** Of 12 to the n courses, alike likely, those on which it dies at the FARM. */
        long odds(int farm, int n, int p) {
            BigInteger dies = BigInteger.ZERO;
            for (int k = 0; k < n; k++) {
                if (farm(today() + k) == farm) {
                    BigInteger before = BigInteger.valueOf(12 - p).pow(k);
                    BigInteger behind = BigInteger.valueOf(12).pow(n - 1 - k);
                    dies = dies.add(before.multiply(BigInteger.valueOf(p)).multiply(behind));
                }
            }
            return tell(dies.longValueExact(), BigInteger.valueOf(12).pow(n).longValueExact());
        }

        long lots(int n, int seed) {
            if (deeds.size() + n > 60) {
                return FULL;
            }
            BigInteger lot = BigInteger.valueOf(seed);
            for (int k = 0; k < n; k++) {
                lot = lot.multiply(BigInteger.valueOf(48271)).mod(BigInteger.valueOf(2147483647));
                int v = lot.intValueExact();
                if (v % 3 == 0) {
                    deed(0, 0, 0);
                } else if (v % 3 == 1) {
                    deed(1, v / 8 % kinds.length(), 0);
                } else {
                    deed(2, v / 16 % 2, v / 64 % 9 + 1);
                }
            }
            return owners().replace("b", "").length();
        }

        int count(int what) {
            int bulls = kinds.replaceAll("[^ux]", "").length();
            int there = 0;
            List<?> among = Arrays.asList(what == 7 ? rows : what == 8 ? texts : kept);
            for (Object one : among) {
                there += one == null ? 0 : 1;
            }
            return new int[] {kinds.length(), turns.length(), milks.length(), today(), deeds.size(), paid() + 10000, bulls,
                there, there, there}[what];
        }

        long digest() {
            List<Integer> vs = new ArrayList<>();
            for (int what = 0; what < 10; what++) {
                vs.add(count(what));
            }
            for (char c : turns.toCharArray()) {
                vs.add(c - 'a');
            }
            for (int i = 0; i < 5 * kinds.length(); i++) {
                vs.add(beast(i / 5, i % 5));
            }
            for (Kept one : kept) {
                vs.add(one == null ? -1 : one.deeds.size());
            }
            for (List<Integer>[] among : List.of(rows, texts)) {
                for (List<Integer> one : among) {
                    vs.add(one == null ? -1 : one.size());
                    vs.addAll(one == null ? List.of() : one);
                }
            }
            long h = 17;
            for (int v : vs) {
                h = 31 * h + v;
            }
            return h;
        }
    }
}

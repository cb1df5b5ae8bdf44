import java.lang.reflect.Field;

/**
 * What is due on DAY 999. FARMS begin on DAY 0 and there are 60 DEEDS at most, so no run of calls comes to that DAY: TODAY
 * is set from within here, where the class holds it.
 */
public final class LastDayTest {
    private static final int STATE = -4, FULL = -2;
    private static final String SIGNS = "tabba m5031 c5a d6b y4a u3b h2a x4b";

    private static int wrong = 0;
    private static int checks = 0;

    private static void due(String what, long got, long want) {
        checks++;
        if (got != want) {
            wrong++;
            System.out.println(what + " answered " + got + ", due is " + want);
        }
    }

    private static HalvedCow on(int day) throws ReflectiveOperationException {
        HalvedCow x = new HalvedCow();
        x.text(0, SIGNS.length());
        for (int i = 0; i < SIGNS.length(); i++) {
            x.put(0, i, SIGNS.charAt(i));
        }
        x.farms(0);
        Field now = HalvedCow.class.getDeclaredField("now");
        now.setAccessible(true);
        Object farms = now.get(x);
        Field today = farms.getClass().getDeclaredField("today");
        today.setAccessible(true);
        today.setInt(farms, day);
        due("TODAY", x.count(3), day);
        return x;
    }

    private static int lot(int before) {
        return (int) (48271L * before % 2147483647L);
    }

    /** A seed whose first number is this modulo 3. */
    private static int seedOf(int rest) {
        int seed = 1;
        while (lot(seed) % 3 != rest) {
            seed++;
        }
        return seed;
    }

    public static void main(String[] args) throws ReflectiveOperationException {
        days();
        lots();
        fullLast();
        System.out.println(checks + " checks on the last DAY, " + wrong + " wrong");
        if (wrong != 0) {
            System.exit(1);
        }
    }

    private static void days() throws ReflectiveOperationException {
        HalvedCow x = on(998);
        due("day() on DAY 998", x.day(), 999);
        long digest = x.digest();
        due("day() on DAY 999", x.day(), STATE);
        due("digest() behind it", x.digest(), digest);
        due("DEEDS", x.count(4), 1);
        due("finding()", x.finding(), 0);
        due("undo(0)", x.undo(0), 1);
        due("TODAY", x.count(3), 998);
    }

    private static void lots() throws ReflectiveOperationException {
        HalvedCow x = on(999);
        long digest = x.digest();
        due("lots() by which a DAY would go by", x.lots(1, seedOf(0)), 3);
        due("nothing, no DEED", x.digest(), digest);
        x.lots(1, seedOf(1));
        due("a BEAST driven over", x.count(4), 1);
        x.lots(1, seedOf(2));
        due("a SUM paid", x.count(4), 2);

        x = on(995);
        int daysByLots = 0;
        int number = 4711;
        for (int k = 0; k < 20; k++) {
            number = lot(number);
            daysByLots += number % 3 == 0 ? 1 : 0;
        }
        due("this seed has more DAYS than are left", daysByLots > 4 ? 1 : 0, 1);
        x.lots(20, 4711);
        due("TODAY behind them", x.count(3), 999);
        due("DEEDS behind them", x.count(4), 20 - (daysByLots - 4));
        due("undo(0)", x.undo(0), 20 - (daysByLots - 4));
        due("TODAY again", x.count(3), 995);
    }

    private static void fullLast() throws ReflectiveOperationException {
        HalvedCow x = on(999);
        for (int k = 0; k < 60; k++) {
            x.drive(0);
        }
        due("drive() with 60 DEEDS", x.drive(0), FULL);
        due("day() with 60 DEEDS on DAY 999: FULL last", x.day(), STATE);
        due("lots() with 60 DEEDS on DAY 999", x.lots(1, seedOf(0)), FULL);
    }
}

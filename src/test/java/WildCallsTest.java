import java.util.Random;

/** No call ever throws or leaves the bounds, whatever its arguments. */
public final class WildCallsTest {
    private static final int[] EDGES = {Integer.MIN_VALUE, Integer.MIN_VALUE + 1, -10, -9, -5, -4, -3, -2, -1, 0, 1, 2,
        7, 8, 9, 23, 24, 29, 30, 40, 45, 60, 61, 300, 301, 500, 501, 9999, 10000, 10001, 200000, 200001,
        Integer.MAX_VALUE - 1, Integer.MAX_VALUE};

    public static void main(String[] args) {
        Random r = new Random(7);
        for (int run = 0; run < 300; run++) {
            wildRun(r);
        }
        Check.finish();
    }

    private static int any(Random r) {
        return r.nextInt(3) > 0 ? EDGES[r.nextInt(EDGES.length)] : r.nextInt(3) > 0 ? r.nextInt(40) : r.nextInt();
    }

    private static void wildRun(Random r) {
        ShipCut x = new ShipCut();
        for (int i = 0; i < 511; i++) {
            int a = any(r), b = any(r), c = any(r), d = any(r);
            switch (r.nextInt(14)) {
                case 0: x.section(a, b, c, r.nextBoolean()); break;
                case 1: x.tide(a, b); break;
                case 2: x.wind(a, b); break;
                case 3: x.rule(a, b); break;
                case 4: x.ship(a & 3, b, r.nextBoolean(), c, r.nextBoolean(), d); break;
                case 5: x.convoy(a & 3, b); break;
                case 6: x.book(a, b); break;
                case 7: x.ground(a, b); break;
                case 8: x.minutes(a); break;
                case 9: x.told(a, b); break;
                case 10: x.waited(a, b); break;
                case 11: x.line(a, b); break;
                case 12: x.in(a, b, c); break;
                default: x.count(a); break;
            }
        }
        int gone = x.count(2);
        Check.holds("a run's minutes stay within their bounds", gone >= 0 && gone <= 10000);
    }
}

import java.util.Random;

/** No call ever throws, whatever its arguments; a call that is refused changes nothing. */
public final class WildCallsTest {
    private static final int[] EDGES = {Integer.MIN_VALUE, Integer.MIN_VALUE + 1, -10, -9, -5, -4, -3, -2, -1, 0, 1, 2,
        7, 8, 9, 23, 24, 29, 30, 40, 45, 60, 61, 300, 301, 500, 501, 9999, 10000, 10001, 200000, 200001,
        Integer.MAX_VALUE - 1, Integer.MAX_VALUE};

    public static void main(String[] args) {
        Random r = new Random(7);
        for (int run = 0; run < 300; run++) {
            wildRun(r);
        }
        refusedCallsChangeNothing();
        Check.finish();
    }

    private static int any(Random r) {
        return r.nextInt(3) > 0 ? EDGES[r.nextInt(EDGES.length)] : r.nextInt(3) > 0 ? r.nextInt(40) : r.nextInt();
    }

    private static void wildRun(Random r) {
        ShipCut x = new ShipCut();
        for (int i = 0; i < 512; i++) {
            int a = any(r), b = any(r), c = any(r), d = any(r);
            switch (r.nextInt(14)) {
                case 0: x.section(a, b, c, r.nextBoolean()); break;
                case 1: x.tide(a, b); break;
                case 2: x.wind(a, b); break;
                case 3: x.rule(a, b); break;
                case 4: x.ship(a & 3, b, r.nextBoolean(), c, r.nextBoolean(), d); break;
                case 5: x.convoy(a & 3, b); break;
                case 6: x.book(a, b); break;
                case 7: x.ground(a, b); break;
                case 8: x.minutes(a); break;
                case 9: x.told(a, b); break;
                case 10: x.waited(a, b); break;
                case 11: x.line(a, b); break;
                case 12: x.in(a, b, c); break;
                default: x.count(a); break;
            }
        }
        Check.holds("a run's minutes stay within their bounds", x.count(2) >= 0 && x.count(2) <= 10000);
    }

    private static ShipCut busyCanal() {
        ShipCut x = Canal.of("..B..B..", 9);
        Canal.convoyOf(x, 0, 1, 8);
        Canal.convoyOf(x, 1, 3, 8);
        for (int c = 2; c < 12; c++) {
            x.convoy(c % 2, 50 + c);
        }
        for (int i = 16; i < 30; i++) {
            Canal.ship(x, i % 2, 45);
        }
        x.minutes(40);
        x.ground(0, 100);
        return x;
    }

    private static void refusedCallsChangeNothing() {
        ShipCut plain = busyCanal();
        ShipCut troubled = busyCanal();
        Check.due("section", troubled.section(0, 1, 1, true), ShipCut.NO);
        Check.due("tide", troubled.tide(0, 10), ShipCut.BAD);
        Check.due("wind", troubled.wind(0, 13), -9);
        Check.due("rule", troubled.rule(0, 61), ShipCut.BAD);
        Check.due("ship", troubled.ship(0, 50, false, 1, false, 1), ShipCut.FULL);
        Check.due("ship", troubled.ship(0, 39, false, 1, false, 1), ShipCut.NO);
        Check.due("convoy", troubled.convoy(0, 90), ShipCut.FULL);
        Check.due("convoy", troubled.convoy(0, 40), ShipCut.NO);
        Check.due("book", troubled.book(0, 16), ShipCut.NO);
        Check.due("book", troubled.book(2, 17), ShipCut.NO);
        Check.due("book", troubled.book(12, 16), ShipCut.BAD);
        Check.due("ground", troubled.ground(0, 7), ShipCut.NO);
        Check.due("ground", troubled.ground(1, 501), ShipCut.BAD);
        Check.due("minutes", troubled.minutes(301), ShipCut.BAD);
        for (int step = 0; step < 3; step++) {
            same(plain, troubled);
            plain.minutes(100);
            troubled.minutes(100);
        }
        same(plain, troubled);
    }

    private static void same(ShipCut x, ShipCut y) {
        for (int what = 0; what < 8; what++) {
            Check.due("count " + what, y.count(what), x.count(what));
        }
        for (int s = 0; s < 30; s++) {
            for (int what = 0; what < 9; what++) {
                Check.due("told " + s + " " + what, y.told(s, what), x.told(s, what));
            }
            for (int cause = 0; cause < 7; cause++) {
                Check.due("waited " + s + " " + cause, y.waited(s, cause), x.waited(s, cause));
            }
        }
    }
}

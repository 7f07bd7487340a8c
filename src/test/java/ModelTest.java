import java.util.Random;

/** Long runs of calls, the same ones each time, whose every answer is held against the model's. */
public final class ModelTest {
    private static final int RUNS = 1500;
    private static final int CALLS = 512;
    // How many of these are kept for the questions at the end: none, rows and counts, told, waited.
    private static final int[] CALLS_OF_PART = {0, 134, 270, 240};
    private static final int[] WILD = {Integer.MIN_VALUE, -1000000, -1, 0, 1, 10000, 1000000, Integer.MAX_VALUE};
    private static final long[] WAITS = new long[7];
    private static int outs, lefts, lates, grounds, wrongRuns;

    public static void main(String[] args) {
        for (int run = 0; run < RUNS && wrongRuns < 5; run++) {
            oneRun(run);
        }
        // Runs in which little happens would prove little.
        for (int cause = 0; cause < 7; cause++) {
            Check.holds("ships waited by cause " + cause, WAITS[cause] > 1000);
        }
        Check.holds("ships got out", outs > 1000);
        Check.holds("ships were left", lefts > 100);
        Check.holds("ships were late", lates > 1000);
        Check.holds("ships ran aground", grounds > 1000);
        Check.finish();
    }

    private static void oneRun(int run) {
        Random r = new Random(run);
        ShipCut x = new ShipCut();
        Model m = new Model();
        int style = r.nextInt(6);
        int part = run % CALLS_OF_PART.length;
        for (int i = 0; i < CALLS - CALLS_OF_PART[part]; i++) {
            int promise = choose(r, i, style);
            int[] a = arguments(r, promise, modelCount(m, 2), style);
            if (r.nextInt(60) == 0) {
                a[r.nextInt(a.length)] = WILD[r.nextInt(WILD.length)];
            }
            int got = call(x, promise, a);
            int want = m.call(promise, a);
            if (promise == 9 && got == 1) {
                grounds++;
            }
            if (got != want) {
                wrongRuns++;
                Check.due("run " + run + " call " + i + ": promise " + promise + " of " + java.util.Arrays.toString(a), got, want);
                return;
            }
        }
        compareAtEnd(run, part, x, m);
        tally(m);
    }

    /** First the canal, then ships, convoys and bookings, then minutes among all other calls. */
    private static int choose(Random r, int i, int style) {
        if (i < 14) {
            return r.nextInt(10) < 7 ? 2 : 3 + r.nextInt(3);
        }
        if (i < 100) {
            return 6 + (r.nextInt(3) == 0 ? r.nextInt(2) : r.nextInt(2) * 2);
        }
        int k = r.nextInt(20);
        if (k < 6) {
            return 10;
        }
        return k < 9 ? 9 : k < 10 ? 3 + r.nextInt(3) : k < 13 ? 6 + r.nextInt(3) : style == 0 ? 2 + r.nextInt(14) : 11 + r.nextInt(5);
    }

    private static int[] arguments(Random r, int promise, int now, int style) {
        int near = now + r.nextInt(style < 3 ? 40 : 300) - (r.nextInt(8) == 0 ? 20 : 0);
        int bit = r.nextInt(2);
        switch (promise) {
            case 2: return new int[] {r.nextInt(8), 1 + r.nextInt(style < 4 ? 6 : 60), 10 + r.nextInt(30), style == 5 ? 1 : bit};
            case 3: return new int[] {r.nextInt(24), r.nextInt(10)};
            case 4: return new int[] {r.nextInt(24), r.nextInt(14) - 1};
            case 5: return new int[] {bit, bit == 1 ? r.nextInt(2) : r.nextInt(style == 3 ? 61 : 6)};
            case 6: return new int[] {bit, near, r.nextInt(2), 1 + r.nextInt(r.nextInt(4) == 0 ? 45 : 14), r.nextInt(2), 1 + r.nextInt(r.nextBoolean() ? 30000 : 200000)};
            case 7: return new int[] {bit, near};
            case 8: return new int[] {r.nextInt(13) - (r.nextInt(9) == 0 ? 1 : 0), r.nextInt(31)};
            case 9: return new int[] {r.nextInt(30), 1 + r.nextInt(r.nextInt(5) == 0 ? 120 : 20)};
            case 10: return new int[] {1 + r.nextInt(r.nextInt(12) == 0 ? 300 : style < 4 ? 8 : 40)};
            case 11: return new int[] {r.nextInt(31), r.nextInt(10)};
            case 12: return new int[] {r.nextInt(31), r.nextInt(9) - 1};
            case 13: return new int[] {bit, r.nextInt(12)};
            case 14: return new int[] {r.nextInt(8), bit, r.nextInt(4)};
            default: return new int[] {r.nextInt(9)};
        }
    }

    private static int call(ShipCut x, int promise, int[] a) {
        switch (promise) {
            case 2: return x.section(a[0], a[1], a[2], a[3] != 0);
            case 3: return x.tide(a[0], a[1]);
            case 4: return x.wind(a[0], a[1]);
            case 5: return x.rule(a[0], a[1]);
            case 6: return x.ship(a[0], a[1], a[2] != 0, a[3], a[4] != 0, a[5]);
            case 7: return x.convoy(a[0], a[1]);
            case 8: return x.book(a[0], a[1]);
            case 9: return x.ground(a[0], a[1]);
            case 10: return x.minutes(a[0]);
            case 11: return x.told(a[0], a[1]);
            case 12: return x.waited(a[0], a[1]);
            case 13: return x.line(a[0], a[1]);
            case 14: return x.in(a[0], a[1], a[2]);
            default: return x.count(a[0]);
        }
    }

    /** One part of all that can be asked: all of it would be more calls than an object is promised for. */
    private static void compareAtEnd(int run, int part, ShipCut x, Model m) {
        if (part == 1) {
            compareRows(run, x, m);
        }
        for (int s = 0; s < modelCount(m, 0); s++) {
            for (int what = 0; part == 2 && what < 9; what++) {
                Check.due("run " + run + " told " + s + " " + what, x.told(s, what), m.call(11, new int[] {s, what}));
            }
            for (int cause = -1; part == 3 && cause < 7; cause++) {
                Check.due("run " + run + " waited " + s + " " + cause, x.waited(s, cause), m.call(12, new int[] {s, cause}));
            }
        }
    }

    private static void compareRows(int run, ShipCut x, Model m) {
        for (int what = 0; what < 8; what++) {
            Check.due("run " + run + " count " + what, x.count(what), modelCount(m, what));
        }
        for (int way = 0; way < 2; way++) {
            for (int i = 0; i < 31; i++) {
                Check.due("run " + run + " line " + way + " " + i, x.line(way, i), m.call(13, new int[] {way, i}));
            }
            for (int s = 0; s < 8; s++) {
                for (int i = 0; i < 4; i++) {
                    Check.due("run " + run + " in " + s + " " + way + " " + i, x.in(s, way, i), m.call(14, new int[] {s, way, i}));
                }
            }
        }
    }

    private static int modelCount(Model m, int what) {
        return m.call(15, new int[] {what});
    }

    /** What happened in a run, by the model that the run was held against. */
    private static void tally(Model m) {
        Check.holds("one way at most in a section", modelCount(m, 7) <= 1);
        for (int s = 0; s < modelCount(m, 0); s++) {
            for (int cause = 0; cause < 7; cause++) {
                WAITS[cause] += m.call(12, new int[] {s, cause});
            }
        }
        outs += modelCount(m, 3);
        lefts += modelCount(m, 4);
        lates += modelCount(m, 5);
    }
}

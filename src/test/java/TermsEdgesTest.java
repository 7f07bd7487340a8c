/** Part 1 of the terms: the edge of each number that the document bounds, on both sides. */
public final class TermsEdgesTest {
    private static final int NORTH = Canal.NORTH, SOUTH = Canal.SOUTH;
    private static final int LEAST = Integer.MIN_VALUE, MOST = Integer.MAX_VALUE;

    public static void main(String[] args) {
        minutes();
        hoursByTide();
        hoursByWind();
        sections();
        lengths();
        slow();
        depths();
        sectionsAtFirst();
        tides();
        tidalSections();
        winds();
        gap();
        rule();
        chains();
        ships();
        ways();
        draughts();
        tons();
        convoys();
        bookings();
        bookedOnce();
        Check.finish();
    }

    /** Minute 0 of a canal that ships of both ways are about to go through. */
    private static void ready(ShipCut x) {
        for (int s = 0; s < 8; s++) {
            x.section(s, 3 + s, 12 + s, s == 2 || s == 5);
        }
        Canal.deepConvoyOf(x, NORTH, 1, 3, 9);
        Canal.deepConvoyOf(x, SOUTH, 2, 3, 9);
        x.book(0, x.ship(NORTH, 5, true, 9, true, 50));
        x.convoy(NORTH, 12);
    }

    private static void minutes() {
        Check.sentence("MINUTES are 0 to 9999");
        for (int minute : new int[] {LEAST, -1, 10000, MOST}) {
            Refused.due("a ship of minute " + minute, TermsEdgesTest::ready,
                x -> x.ship(NORTH, minute, false, 1, false, 1), ShipCut.BAD);
            Refused.due("a convoy of minute " + minute, TermsEdgesTest::ready, x -> x.convoy(NORTH, minute), ShipCut.BAD);
        }
        ShipCut x = new ShipCut();
        Check.due("a ship of minute 0", x.ship(NORTH, 0, false, 1, false, 1), 0);
        Check.due("a ship of minute 9999", x.ship(NORTH, 9999, false, 1, false, 1), 1);
        Check.due("a convoy of minute 9999", x.convoy(NORTH, 9999), 0);
        Check.due("a convoy of minute 0 is no bad one", x.convoy(NORTH, 0), ShipCut.NO);
    }

    private static final int[] CLOCK = {1, 59, 60, 119, 120, 1379, 1380, 1439, 1440, 1499, 1500, 2879, 2880, 9959, 9960, 9999};
    private static final int[] HOUR = {0, 0, 1, 1, 2, 22, 23, 23, 0, 0, 1, 23, 0, 21, 22, 22};

    private static void hoursByTide() {
        Check.sentence("HOUR of the day: MINUTE by 60, cut, modulo 24");
        for (int k = 0; k < CLOCK.length; k++) {
            for (int hour = 0; hour < 24; hour++) {
                ShipCut x = new ShipCut();
                x.tide(hour, 1);
                x.book(x.convoy(NORTH, CLOCK[k]), x.ship(NORTH, 0, false, 16, false, 1));
                Canal.until(x, CLOCK[k]);
                x.minutes(1);
                Check.due("minute " + CLOCK[k] + " by the tide of hour " + hour, x.told(0, 0), hour == HOUR[k] ? 0 : -1);
            }
        }
    }

    private static void hoursByWind() {
        for (int k = 0; k < CLOCK.length; k++) {
            for (int hour = 0; hour < 24; hour++) {
                ShipCut x = new ShipCut();
                x.wind(hour, 7);
                x.book(x.convoy(SOUTH, CLOCK[k]), x.ship(SOUTH, 0, true, 1, false, 1));
                Canal.until(x, CLOCK[k]);
                x.minutes(1);
                Check.due("minute " + CLOCK[k] + " by the wind of hour " + hour, x.told(0, 0), hour == HOUR[k] ? -1 : 7);
            }
        }
    }

    private static void sections() {
        Check.sentence("SECTIONS 0 to 7, from south to north");
        for (int s : new int[] {LEAST, -1, 8, MOST}) {
            Refused.due("section " + s, TermsEdgesTest::ready, x -> x.section(s, 1, 1, true), ShipCut.BAD);
            Refused.due("in section " + s, TermsEdgesTest::ready, x -> x.in(s, NORTH, 0), ShipCut.BAD);
        }
        for (int s = 0; s < 8; s++) {
            ShipCut x = Canal.of("BBBBBBBB", 1);
            Check.due("section " + s, x.section(s, 9, 40, true), 0);
            Canal.convoyOf(x, NORTH, 1, 1);
            Canal.until(x, 2 + s);
            Check.due("it is the one that a ship meets there: " + s, x.told(0, 0), s);
            Check.due("with the length that was told: " + s, x.told(0, 1), 9);
            Check.due("the row in it: " + s, x.in(s, NORTH, 0), 0);
        }
    }

    private static void lengths() {
        Check.sentence("each has a LENGTH (1 to 60)");
        for (int length : new int[] {LEAST, -1, 0, 61, MOST}) {
            Refused.due("length " + length, TermsEdgesTest::ready, x -> x.section(3, length, 8, true), ShipCut.BAD);
        }
        for (int length : new int[] {1, 60}) {
            ShipCut x = Canal.of("BBBBBBBB", 5);
            Check.due("length " + length, x.section(0, length, 40, true), 0);
            Canal.convoyOf(x, NORTH, 1, 1);
            Canal.until(x, 2);
            Check.due("to go: length " + length, x.told(0, 1), length);
            Canal.until(x, 1 + length);
            Check.due("there until then: length " + length, x.told(0, 0), 0);
            x.minutes(1);
            Check.due("then gone on: length " + length, x.told(0, 0), 1);
        }
    }

    private static void slow() {
        Check.sentence("In a SECTION it is LENGTH MINUTES under way, SLOW twice that.");
        for (int length : new int[] {1, 60}) {
            ShipCut x = Canal.of("BBBBBBBB", 5);
            x.section(7, length, 40, true);
            x.book(x.convoy(SOUTH, 1), x.ship(SOUTH, 0, false, 1, true, 1));
            Canal.until(x, 2);
            Check.due("to go, slow: length " + length, x.told(0, 1), 2 * length);
            Canal.until(x, 1 + 2 * length);
            Check.due("there until then, slow: length " + length, x.told(0, 0), 7);
            x.minutes(1);
            Check.due("then gone on, slow: length " + length, x.told(0, 0), 6);
        }
    }

    private static void depths() {
        Check.sentence("a DEPTH (1 to 40)");
        for (int depth : new int[] {LEAST, -1, 0, 41, MOST}) {
            Refused.due("depth " + depth, TermsEdgesTest::ready, x -> x.section(3, 60, depth, true), ShipCut.BAD);
        }
        for (int depth : new int[] {1, 40}) {
            ShipCut x = Canal.of("BBBBBBBB", 5);
            Check.due("depth " + depth, x.section(0, 5, depth, true), 0);
            int convoy = x.convoy(NORTH, 1);
            x.book(convoy, x.ship(NORTH, 0, false, depth, false, 1));
            x.book(convoy, x.ship(NORTH, 0, false, depth + 1, false, 1));
            Canal.until(x, 10);
            Check.due("as deep as it draws: " + depth, x.told(0, 4), 1);
            Check.due("one more than that: " + depth, x.told(1, 4), ShipCut.NONE);
            Check.due("by tide: " + depth, x.waited(1, Canal.TIDE), 4);
        }
    }

    private static void sectionsAtFirst() {
        Check.sentence("is a BYPASS or not (at first 20, 15, none is)");
        for (int s = 0; s < 8; s++) {
            ShipCut x = new ShipCut();
            for (int other = 0; other < 8; other++) {
                if (other != s) {
                    x.section(other, 1, 40, true);
                }
            }
            x.wind(0, 7);
            int convoy = x.convoy(NORTH, 1);
            x.book(convoy, x.ship(NORTH, 0, false, 15, false, 1));
            x.book(convoy, x.ship(NORTH, 0, false, 16, false, 1));
            x.book(x.convoy(SOUTH, 30), x.ship(SOUTH, 0, true, 1, false, 1));
            Canal.until(x, 2 + s);
            Check.due("a draught of 15 is in section " + s, x.told(0, 0), s);
            Check.due("a length of 20 in section " + s, x.told(0, 1), 20);
            Canal.until(x, 59);
            Check.due("a draught of 16 is kept out of section " + s, x.told(1, 0), s - 1);
            Check.holds("by tide " + s, x.waited(1, Canal.TIDE) > 0);
            Check.due("no bypass: wind keeps a great one out of section " + s, x.told(2, 0), s == 7 ? -1 : s + 1);
            Check.holds("by wind " + s, x.waited(2, Canal.WIND) > 0);
        }
    }

    private static void tides() {
        Check.sentence("TIDES: 24 numbers (0 to 9; 0 at first)");
        for (int hour : new int[] {LEAST, -1, 24, MOST}) {
            Refused.due("tide of hour " + hour, TermsEdgesTest::ready, x -> x.tide(hour, 3), ShipCut.BAD);
        }
        for (int v : new int[] {LEAST, -1, 10, MOST}) {
            Refused.due("tide " + v, TermsEdgesTest::ready, x -> x.tide(0, v), ShipCut.BAD);
        }
        ShipCut x = new ShipCut();
        for (int hour = 0; hour < 24; hour++) {
            Check.due("at first, hour " + hour, x.tide(hour, 9), 0);
            Check.due("9 was taken, hour " + hour, x.tide(hour, 0), 9);
            Check.due("0 was taken, hour " + hour, x.tide(hour, hour % 10), 0);
        }
        for (int hour = 0; hour < 24; hour++) {
            Check.due("each hour has its own, " + hour, x.tide(hour, 0), hour % 10);
        }
    }

    private static void tidalSections() {
        Check.sentence("DEPTH of SECTIONS 0 and 7 is that of the HOUR more");
        for (int way = 0; way < 2; way++) {
            for (int s = 0; s < 8; s++) {
                int deepest = s == 0 || s == 7 ? 24 : 15;
                for (int draught = deepest; draught <= deepest + 1; draught++) {
                    ShipCut x = Canal.of("BBBBBBBB", 1);
                    x.section(s, 1, 15, true);
                    x.tide(0, 9);
                    x.book(x.convoy(way, 1), x.ship(way, 0, false, draught, false, 1));
                    Canal.until(x, 20);
                    int ahead = way == NORTH ? s - 1 : s == 7 ? -1 : s + 1;
                    Check.due("way " + way + ", section " + s + ", draught " + draught,
                        x.told(0, 0), draught == deepest ? 8 : ahead);
                }
            }
        }
    }

    private static void winds() {
        Check.sentence("WINDS: of each HOUR 0 to 12, or missing (0 at first)");
        for (int hour : new int[] {LEAST, -1, 24, MOST}) {
            Refused.due("wind of hour " + hour, TermsEdgesTest::ready, x -> x.wind(hour, 7), -9);
        }
        for (int v : new int[] {LEAST, -9, -2, 13, MOST}) {
            Refused.due("wind " + v, TermsEdgesTest::ready, x -> x.wind(0, v), -9);
        }
        ShipCut x = new ShipCut();
        for (int hour = 0; hour < 24; hour++) {
            Check.due("at first, hour " + hour, x.wind(hour, 12), 0);
            Check.due("12 was taken, hour " + hour, x.wind(hour, -1), 12);
            Check.due("missing was taken, hour " + hour, x.wind(hour, 0), -1);
            Check.due("0 was taken, hour " + hour, x.wind(hour, hour % 13), 0);
        }
        for (int hour = 0; hour < 24; hour++) {
            Check.due("each hour has its own, " + hour, x.wind(hour, 0), hour % 13);
        }
    }

    private static void gap() {
        Check.sentence("GAP: 0 to 60 (5 at first)");
        for (int v : new int[] {LEAST, -1, 61, MOST}) {
            Refused.due("gap " + v, TermsEdgesTest::ready, x -> x.rule(0, v), ShipCut.BAD);
        }
        ShipCut x = new ShipCut();
        Check.due("at first", x.rule(0, 60), 5);
        Check.due("60 was taken", x.rule(0, 0), 60);
        Check.due("0 was taken", x.rule(0, 5), 0);
        Check.due("the other rule is its own", x.rule(1, 0), 0);
    }

    private static void rule() {
        Check.sentence("RULE for late ones: 0 or 1 (0 at first)");
        for (int v : new int[] {LEAST, -1, 2, MOST}) {
            Refused.due("rule " + v, TermsEdgesTest::ready, x -> x.rule(1, v), ShipCut.BAD);
        }
        ShipCut x = new ShipCut();
        Check.due("at first", x.rule(1, 1), 0);
        Check.due("1 was taken", x.rule(1, 0), 1);
        Check.due("0 was taken", x.rule(1, 0), 0);
        Check.due("the gap is its own", x.rule(0, 5), 5);
    }

    /** One stands still in a section for want of depth; how far does one of the other way come, on every map? */
    private static void chains() {
        Check.sentence("A CHAIN are SECTIONS side by side that are no BYPASSES, as far as they go.");
        for (int map = 0; map < 256; map++) {
            for (int stands = 0; stands < 7; stands++) {
                chain(map, NORTH, stands);
                chain(map, SOUTH, stands + 1);
            }
        }
    }

    private static void chain(int map, int way, int stands) {
        int step = way == NORTH ? 1 : -1;
        ShipCut x = new ShipCut();
        for (int s = 0; s < 8; s++) {
            x.section(s, 1, s == stands + step ? 5 : 40, isBypass(map, s));
        }
        x.book(x.convoy(way, 1), x.ship(way, 0, false, 6, false, 1));
        x.book(x.convoy(1 - way, 20), x.ship(1 - way, 0, false, 1, false, 1));
        Canal.until(x, 40);
        Check.due("map " + map + ": it stands", x.told(0, 0), stands);
        int want = 8;
        if (!isBypass(map, stands)) {
            want = stands + step;
            while (want >= 0 && want < 8 && !isBypass(map, want)) {
                want += step;
            }
            want = want == 8 ? -1 : want;
        }
        Check.due("map " + map + ", one of way " + way + " in " + stands + ": the other comes to", x.told(1, 0), want);
        Check.due("map " + map + ", all its waiting is for the oncoming one", x.waited(1, -1), x.waited(1, Canal.ONCOMING));
    }

    private static boolean isBypass(int map, int s) {
        return (map >> s & 1) == 1;
    }

    private static void thirtyShips(ShipCut x) {
        ready(x);
        for (int i = x.count(0); i < 30; i++) {
            Check.due("ship " + i, Canal.ship(x, i % 2, 9), i);
        }
    }

    private static void ships() {
        Check.sentence("SHIPS 0, 1, .. as they come, 30 at most");
        Refused.due("the 31st", TermsEdgesTest::thirtyShips, x -> Canal.ship(x, NORTH, 9), ShipCut.FULL);
        ShipCut x = new ShipCut();
        thirtyShips(x);
        Check.due("30 of them", x.count(0), 30);
        Check.due("the last one is there", x.told(29, 0), -1);
        Check.due("there is no 31st", x.told(30, 0), -9);
        // Those that are out keep their numbers and their places.
        ShipCut y = Canal.of("BBBBBBBB", 1);
        Canal.convoyOf(y, NORTH, 1, 1);
        Canal.until(y, 12);
        Check.due("one is out", y.count(3), 1);
        for (int i = 1; i < 30; i++) {
            Check.due("ship " + i + " behind one that is out", Canal.ship(y, NORTH, 12), i);
        }
        Check.due("one that is out counts", Canal.ship(y, NORTH, 12), ShipCut.FULL);
    }

    private static void ways() {
        Check.sentence("a WAY (0 north, from SECTION 0 to 7; 1 south, from 7 to 0)");
        for (int way : new int[] {LEAST, -1, 2, MOST}) {
            Refused.due("a ship of way " + way, TermsEdgesTest::ready, x -> x.ship(way, 5, false, 1, false, 1), ShipCut.BAD);
            Refused.due("a convoy of way " + way, TermsEdgesTest::ready, x -> x.convoy(way, 5), ShipCut.BAD);
            Refused.due("the line of way " + way, TermsEdgesTest::ready, x -> x.line(way, 0), ShipCut.BAD);
            Refused.due("in a section, way " + way, TermsEdgesTest::ready, x -> x.in(0, way, 0), ShipCut.BAD);
        }
        for (int way = 0; way < 2; way++) {
            ShipCut x = Canal.of("BBBBBBBB", 1);
            Canal.convoyOf(x, way, 1, 1);
            for (int k = 0; k < 8; k++) {
                Canal.until(x, 2 + k);
                Check.due("way " + way + ", section by section", x.told(0, 0), way == NORTH ? k : 7 - k);
            }
            x.minutes(1);
            Check.due("way " + way + ", out behind its last one", x.told(0, 0), 8);
        }
    }

    private static void draughts() {
        Check.sentence("a DRAUGHT (1 to 45)");
        for (int draught : new int[] {LEAST, -1, 0, 46, MOST}) {
            Refused.due("draught " + draught, TermsEdgesTest::ready, x -> x.ship(NORTH, 5, false, draught, false, 1), ShipCut.BAD);
        }
        ShipCut x = Canal.of("BBBBBBBB", 1);
        x.section(0, 1, 36, true);
        x.tide(0, 9);
        int convoy = x.convoy(NORTH, 1);
        Check.due("draught 1", x.ship(NORTH, 0, false, 1, false, 1), 0);
        Check.due("draught 45", x.ship(NORTH, 0, false, 45, false, 1), 1);
        x.book(convoy, 1);
        x.book(convoy, 0);
        Canal.until(x, 2);
        Check.due("36 and 9 are deep enough for 45", x.told(1, 0), 0);
    }

    private static void tons() {
        Check.sentence("TONS (1 to 200000)");
        for (int tons : new int[] {LEAST, -1, 0, 200001, MOST}) {
            Refused.due("tons " + tons, TermsEdgesTest::ready, x -> x.ship(NORTH, 5, false, 1, false, tons), ShipCut.BAD);
        }
        ShipCut x = new ShipCut();
        Check.due("tons 1", x.ship(NORTH, 5, false, 1, false, 1), 0);
        Check.due("tons 200000", x.ship(NORTH, 5, false, 1, false, 200000), 1);
        Check.due("dues of 1", x.told(0, 6), 3);
        Check.due("dues of 200000", x.told(1, 6), 225000);
    }

    private static void twelveConvoys(ShipCut x) {
        ready(x);
        for (int i = x.count(1); i < 12; i++) {
            Check.due("convoy " + i, x.convoy(i % 2, 9), i);
        }
    }

    private static void convoys() {
        Check.sentence("CONVOYS 0, 1, .. as they come, 12 at most");
        Refused.due("the 13th", TermsEdgesTest::twelveConvoys, x -> x.convoy(NORTH, 8), ShipCut.FULL);
        ShipCut x = new ShipCut();
        twelveConvoys(x);
        Check.due("12 of them", x.count(1), 12);
        int ship = Canal.ship(x, SOUTH, 3);
        Check.due("there is no 13th", x.book(12, ship), ShipCut.BAD);
        Check.due("the last one takes ships", x.book(11, ship), 1);
        x.minutes(20);
        Check.due("those that have started count", x.convoy(NORTH, 30), ShipCut.FULL);
    }

    private static void eightBooked(ShipCut x) {
        Canal.convoyOf(x, NORTH, 3, 8);
        Canal.ship(x, NORTH, 0);
        x.convoy(NORTH, 4);
    }

    private static void bookings() {
        Check.sentence("SHIPS are BOOKED into it, in order, 8 at most");
        Refused.due("the ninth", TermsEdgesTest::eightBooked, x -> x.book(0, 8), ShipCut.FULL);
        ShipCut x = Canal.of("........", 60);
        int convoy = x.convoy(NORTH, 1);
        int[] order = {7, 0, 6, 1, 5, 2, 4, 3};
        for (int i = 0; i < 8; i++) {
            Canal.ship(x, NORTH, 0);
        }
        for (int i = 0; i < 8; i++) {
            Check.due("booked " + i, x.book(convoy, order[i]), i + 1);
        }
        Canal.until(x, 2);
        Check.due("the first booked is in", x.in(0, NORTH, 0), order[0]);
        for (int i = 1; i < 8; i++) {
            Check.due("the line " + i, x.line(NORTH, i - 1), order[i]);
        }
        Check.due("no more than those", x.line(NORTH, 7), ShipCut.NONE);
    }

    private static void bookedOnce() {
        Check.sentence("each into one only");
        Refused.due("into the same one", TermsEdgesTest::ready, x -> x.book(0, 0), ShipCut.NO);
        Refused.due("into another one", TermsEdgesTest::ready, x -> x.book(2, 0), ShipCut.NO);
    }
}

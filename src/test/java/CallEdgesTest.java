/** Promises 1 to 15: what each call refuses, what goes first of several, and the edges of each answer. */
public final class CallEdgesTest {
    private static final int NORTH = Canal.NORTH, SOUTH = Canal.SOUTH;
    private static final int LEAST = Integer.MIN_VALUE, MOST = Integer.MAX_VALUE;
    private static final int[] NO_SHIP = {LEAST, -4, -1, 9, 30, MOST};
    private static final int[] NO_CONVOY = {LEAST, -4, -1, 4, 12, MOST};

    public static void main(String[] args) {
        newObject();
        section();
        tide();
        wind();
        rule();
        ship();
        shipOrder();
        convoy();
        bookBad();
        bookNo();
        bookAtItsEdges();
        bookFull();
        groundBad();
        groundNo();
        minutesBad();
        minutesFull();
        afterTheEnd();
        toldBad();
        toldPlaces();
        toldTimes();
        toldAground();
        toldConvoy();
        waited();
        waitedByAll();
        line();
        in();
        count();
        countOfWays();
        countOfWaysInEach();
        lastOfTheCalls();
        Check.finish();
    }

    /** Minute 9 of a canal with 9 ships and 4 convoys: in sections, in both lines, late, put off, and to come. */
    private static void busy(ShipCut x) {
        for (int s = 0; s < 8; s++) {
            x.section(s, 3 + s, 30 + s, s == 2 || s == 5);
        }
        x.rule(0, 3);
        Canal.deepConvoyOf(x, NORTH, 1, 3, 20);
        Canal.deepConvoyOf(x, SOUTH, 6, 2, 20);
        x.book(0, Canal.ship(x, NORTH, 4));
        x.convoy(NORTH, 12);
        Canal.ship(x, NORTH, 11);
        Canal.ship(x, NORTH, 8);
        Canal.ship(x, SOUTH, 11);
        x.convoy(SOUTH, 9);
        x.minutes(9);
    }

    private static void end(ShipCut x) {
        x.convoy(NORTH, 9999);
        x.book(0, Canal.ship(x, NORTH, 0));
        Canal.ship(x, NORTH, 9999);
        for (int i = 0; i < 33; i++) {
            x.minutes(300);
        }
        x.minutes(100);
    }

    private static ShipCut made(Refused.Lead lead) {
        ShipCut x = new ShipCut();
        lead.on(x);
        return x;
    }

    private static void refused(String name, Refused.Call call, int want) {
        Refused.due(name, CallEdgesTest::busy, call, want);
    }

    private static void newObject() {
        Check.sentence("All as at first; MINUTE 0.");
        ShipCut x = new ShipCut();
        for (int what = 0; what < 8; what++) {
            Check.due("count " + what, x.count(what), 0);
        }
        Check.due("no ship 0", x.told(0, 0), -9);
        Check.due("no ship 0 that waited", x.waited(0, -1), ShipCut.BAD);
        Check.due("no ship 0 to book", x.book(0, 0), ShipCut.BAD);
        Check.due("no ship 0 to ground", x.ground(0, 1), ShipCut.BAD);
        Check.due("minute 0 is about to begin", x.ship(NORTH, 0, false, 1, false, 1), 0);
        Check.due("minute 0 is about to begin", x.minutes(1), 1);
        Check.due("a new object is not touched by another one", new ShipCut().count(0), 0);
    }

    private static void section() {
        Check.sentence("A SECTION: 0. BAD; NO: a MINUTE has gone.");
        ShipCut x = new ShipCut();
        x.minutes(0);
        Check.due("a refused minute has not gone", x.section(0, 60, 40, true), 0);
        Check.due("it may be told again", x.section(0, 1, 1, false), 0);
        x.minutes(1);
        Check.due("one has gone", x.section(0, 1, 1, false), ShipCut.NO);
        for (int s = 0; s < 8; s++) {
            int number = s;
            refused("section " + s, y -> y.section(number, 60, 1, number != 2 && number != 5), ShipCut.NO);
        }
        refused("bad section, and a minute has gone", y -> y.section(8, 1, 1, true), ShipCut.BAD);
        refused("bad length, and a minute has gone", y -> y.section(0, 61, 1, true), ShipCut.BAD);
        refused("bad depth, and a minute has gone", y -> y.section(0, 1, 41, true), ShipCut.BAD);
    }

    private static void tide() {
        Check.sentence("The TIDE of an HOUR: what it was. BAD.");
        refused("tide of hour -1", x -> x.tide(-1, 0), ShipCut.BAD);
        refused("tide of hour 24", x -> x.tide(24, 0), ShipCut.BAD);
        refused("tide -1", x -> x.tide(0, -1), ShipCut.BAD);
        refused("tide 10", x -> x.tide(0, 10), ShipCut.BAD);
        ShipCut x = made(CallEdgesTest::end);
        Check.due("at the end too", x.tide(23, 9), 0);
        Check.due("what it was", x.tide(23, 9), 9);
    }

    private static void wind() {
        Check.sentence("The WIND of an HOUR (-1: missing): what it was (-1). BAD answers -9.");
        refused("wind of hour -1", x -> x.wind(-1, 0), -9);
        refused("wind of hour 24", x -> x.wind(24, 0), -9);
        refused("wind -2", x -> x.wind(0, -2), -9);
        refused("wind 13", x -> x.wind(0, 13), -9);
        ShipCut x = made(CallEdgesTest::end);
        Check.due("at the end too", x.wind(0, -1), 0);
        Check.due("it was missing, and that is no bad one", x.wind(0, -1), -1);
        Check.due("missing still", x.wind(0, 12), -1);
    }

    private static void rule() {
        Check.sentence("GAP (what = 0), RULE (1): what it was. BAD.");
        for (int what : new int[] {LEAST, -1, 2, MOST}) {
            refused("rule of " + what, x -> x.rule(what, 0), ShipCut.BAD);
        }
        refused("gap -1", x -> x.rule(0, -1), ShipCut.BAD);
        refused("gap 61", x -> x.rule(0, 61), ShipCut.BAD);
        refused("rule -1", x -> x.rule(1, -1), ShipCut.BAD);
        refused("rule 2, though a gap might be that", x -> x.rule(1, 2), ShipCut.BAD);
    }

    private static void ship() {
        Check.sentence("A SHIP: its number. BAD; NO: its MINUTE is not behind the one that is about to begin, nor that; FULL.");
        refused("a minute gone", x -> Canal.ship(x, NORTH, 8), ShipCut.NO);
        refused("minute 0", x -> Canal.ship(x, SOUTH, 0), ShipCut.NO);
        Check.due("the minute that is about to begin", Canal.ship(made(CallEdgesTest::busy), NORTH, 9), 9);
        Check.due("the one behind it", Canal.ship(made(CallEdgesTest::busy), NORTH, 10), 9);
        Check.due("the last one", Canal.ship(made(CallEdgesTest::busy), NORTH, 9999), 9);
    }

    private static void fullFleet(ShipCut x) {
        busy(x);
        for (int i = 9; i < 30; i++) {
            Canal.ship(x, i % 2, 20);
        }
    }

    private static void shipOrder() {
        Check.sentence("Of several the first; nothing changes then.");
        Refused.Lead full = CallEdgesTest::fullFleet;
        Refused.due("full", full, x -> x.ship(NORTH, 9, false, 1, false, 1), ShipCut.FULL);
        Refused.due("no and full", full, x -> x.ship(NORTH, 8, false, 1, false, 1), ShipCut.NO);
        Refused.due("bad way, no and full", full, x -> x.ship(2, 8, false, 1, false, 1), ShipCut.BAD);
        Refused.due("bad minute and full", full, x -> x.ship(NORTH, -1, false, 1, false, 1), ShipCut.BAD);
        Refused.due("bad draught, no and full", full, x -> x.ship(NORTH, 8, false, 46, false, 1), ShipCut.BAD);
        Refused.due("bad tons, no and full", full, x -> x.ship(NORTH, 8, false, 1, false, 0), ShipCut.BAD);
    }

    private static void fullOfConvoys(ShipCut x) {
        busy(x);
        for (int i = 4; i < 12; i++) {
            x.convoy(i % 2, 20);
        }
    }

    private static void convoy() {
        Check.sentence("A CONVOY: its number. BAD; NO: it does not START behind the MINUTE that is about to begin; FULL.");
        refused("a start that has gone", x -> x.convoy(NORTH, 8), ShipCut.NO);
        refused("a start about to begin", x -> x.convoy(NORTH, 9), ShipCut.NO);
        Check.due("a start behind it", made(CallEdgesTest::busy).convoy(NORTH, 10), 4);
        Refused.Lead full = CallEdgesTest::fullOfConvoys;
        Refused.due("full", full, x -> x.convoy(NORTH, 10), ShipCut.FULL);
        Refused.due("no and full", full, x -> x.convoy(NORTH, 9), ShipCut.NO);
        Refused.due("bad way, no and full", full, x -> x.convoy(2, 9), ShipCut.BAD);
        Refused.due("bad start and full", full, x -> x.convoy(NORTH, 10000), ShipCut.BAD);
        Refused.due("bad start of the past and full", full, x -> x.convoy(NORTH, -1), ShipCut.BAD);
    }

    private static void bookBad() {
        Check.sentence("BAD: a number is none that is told, there is no such thing.");
        for (int ship : NO_SHIP) {
            refused("book ship " + ship, x -> x.book(2, ship), ShipCut.BAD);
            refused("book ship " + ship + " into one that has started", x -> x.book(0, ship), ShipCut.BAD);
        }
        for (int convoy : NO_CONVOY) {
            refused("book into " + convoy, x -> x.book(convoy, 6), ShipCut.BAD);
            refused("book one that is booked into " + convoy, x -> x.book(convoy, 0), ShipCut.BAD);
        }
    }

    private static void bookNo() {
        Check.sentence("NO: another WAY, it is BOOKED, the CONVOY has STARTED (its START is not behind the MINUTE about to begin),"
            + " or the SHIP's MINUTE is gone");
        refused("another way", x -> x.book(2, 8), ShipCut.NO);
        refused("booked and in a section", x -> x.book(2, 0), ShipCut.NO);
        refused("put off to that convoy", x -> x.book(2, 5), ShipCut.NO);
        refused("the convoy has started", x -> x.book(0, 6), ShipCut.NO);
        refused("the convoy is about to start", x -> x.book(3, 8), ShipCut.NO);
        refused("the ship's minute is gone", x -> x.book(2, 7), ShipCut.NO);
        Check.due("none of these", made(CallEdgesTest::busy).book(2, 6), 1);
    }

    private static void bookAtItsEdges() {
        ShipCut x = new ShipCut();
        x.minutes(5);
        x.convoy(NORTH, 6);
        x.convoy(NORTH, 7);
        for (int i = 0; i < 4; i++) {
            Canal.ship(x, NORTH, 5 + i % 2);
        }
        Check.due("a start right behind, a minute about to begin", x.book(0, 0), 1);
        x.minutes(1);
        Check.due("that start is about to begin", x.book(0, 1), ShipCut.NO);
        Check.due("its minute went a moment ago", x.book(1, 2), ShipCut.NO);
        Check.due("its minute is about to begin", x.book(1, 1), 1);
        Check.due("the next one", x.book(1, 3), 2);
    }

    private static void eightBooked(ShipCut x) {
        x.minutes(2);
        x.convoy(NORTH, 9);
        for (int i = 0; i < 8; i++) {
            x.book(0, Canal.ship(x, NORTH, 2));
        }
        Canal.ship(x, NORTH, 2);
        Canal.ship(x, SOUTH, 2);
        x.convoy(NORTH, 12);
    }

    private static void bookFull() {
        Check.sentence("A SHIP is BOOKED: how many it has. .. FULL: 8.");
        Refused.Lead full = CallEdgesTest::eightBooked;
        Refused.due("full", full, x -> x.book(0, 8), ShipCut.FULL);
        Refused.due("another way and full", full, x -> x.book(0, 9), ShipCut.NO);
        Refused.due("booked and full", full, x -> x.book(0, 7), ShipCut.NO);
        Refused.due("bad and full", full, x -> x.book(0, 10), ShipCut.BAD);
        Refused.Lead gone = x -> {
            eightBooked(x);
            x.minutes(1);
        };
        Refused.due("its minute is gone and full", gone, x -> x.book(0, 8), ShipCut.NO);
        Refused.Lead starts = x -> {
            eightBooked(x);
            Canal.ship(x, NORTH, 9);
            x.minutes(7);
        };
        Refused.due("about to start and full", starts, x -> x.book(0, 10), ShipCut.NO);
        Check.due("another one has places", made(full).book(1, 8), 1);
    }

    private static void groundBad() {
        Check.sentence("A SHIP in a SECTION is AGROUND from now on for n MINUTES (1 to 500): 1. BAD; NO: it is in none, or is AGROUND.");
        for (int n : new int[] {LEAST, -1, 0, 501, MOST}) {
            refused("for " + n, x -> x.ground(0, n), ShipCut.BAD);
            refused("one in no section for " + n, x -> x.ground(8, n), ShipCut.BAD);
        }
        for (int ship : NO_SHIP) {
            refused("ship " + ship, x -> x.ground(ship, 5), ShipCut.BAD);
        }
        for (int n : new int[] {1, 500}) {
            ShipCut x = made(CallEdgesTest::busy);
            Check.due("for " + n, x.ground(0, n), 1);
            Check.due("what is left of " + n, x.told(0, 7), n);
        }
    }

    private static void groundNo() {
        refused("not yet there", x -> x.ground(8, 5), ShipCut.NO);
        refused("put off", x -> x.ground(5, 5), ShipCut.NO);
        Refused.Lead inLine = x -> Canal.convoyOf(x, NORTH, 1, 2);
        Refused.Lead started = x -> {
            inLine.on(x);
            x.minutes(2);
        };
        Refused.due("in a line", started, x -> x.ground(1, 5), ShipCut.NO);
        Refused.Lead out = x -> {
            Canal.convoyOf(x, SOUTH, 1, 1);
            x.minutes(200);
        };
        Check.due("it is out", made(out).told(0, 0), 8);
        Refused.due("out", out, x -> x.ground(0, 5), ShipCut.NO);
        Refused.Lead aground = x -> {
            busy(x);
            x.ground(0, 2);
            x.minutes(1);
        };
        Refused.due("aground, for its last minute", aground, x -> x.ground(0, 500), ShipCut.NO);
        Refused.due("aground, and a bad number", aground, x -> x.ground(0, 501), ShipCut.BAD);
        ShipCut x = made(aground);
        x.minutes(1);
        Check.due("afloat again", x.ground(0, 500), 1);
        for (int way = 0; way < 2; way++) {
            for (int k = 0; k < 8; k++) {
                ShipCut y = Canal.of("BBBBBBBB", 1);
                Canal.convoyOf(y, way, 1, 1);
                y.minutes(2 + k);
                Check.due("in section " + k + " of its way " + way, y.ground(0, 1), 1);
            }
        }
    }

    private static void minutesBad() {
        Check.sentence("n MINUTES (1 to 300): the MINUTE that is about to begin. BAD; FULL: beyond 10000.");
        for (int n : new int[] {LEAST, -300, -1, 0, 301, 10000, MOST}) {
            refused("minutes " + n, x -> x.minutes(n), ShipCut.BAD);
        }
        Check.due("one", made(CallEdgesTest::busy).minutes(1), 10);
        Check.due("300", made(CallEdgesTest::busy).minutes(300), 309);
        ShipCut once = made(CallEdgesTest::busy), oneByOne = made(CallEdgesTest::busy);
        once.minutes(100);
        for (int i = 0; i < 100; i++) {
            oneByOne.minutes(1);
        }
        for (int ship = 0; ship < 9; ship++) {
            for (int what = 0; what < 9; what++) {
                Check.due("100 at once and one by one", oneByOne.told(ship, what), once.told(ship, what));
            }
        }
    }

    private static void nearTheEnd(ShipCut x) {
        for (int i = 0; i < 33; i++) {
            x.minutes(300);
        }
        x.convoy(NORTH, 9999);
        x.book(0, Canal.ship(x, NORTH, 9999));
    }

    private static void minutesFull() {
        Refused.Lead near = CallEdgesTest::nearTheEnd;
        Refused.due("101 of 9900", near, x -> x.minutes(101), ShipCut.FULL);
        Refused.due("300 of 9900", near, x -> x.minutes(300), ShipCut.FULL);
        Refused.due("bad and full", near, x -> x.minutes(301), ShipCut.BAD);
        ShipCut x = made(near);
        Check.due("99 of 9900", x.minutes(99), 9999);
        Check.due("beyond by one", x.minutes(2), ShipCut.FULL);
        Check.due("not yet in", x.told(0, 4), ShipCut.NONE);
        Check.due("the last one", x.minutes(1), 10000);
        Check.due("things happen in it", x.told(0, 4), 9999);
        Check.due("100 of 9900", made(near).minutes(100), 10000);
    }

    private static void afterTheEnd() {
        Refused.Lead end = CallEdgesTest::end;
        Refused.due("minutes", end, x -> x.minutes(1), ShipCut.FULL);
        Refused.due("bad minutes", end, x -> x.minutes(0), ShipCut.BAD);
        Refused.due("a ship", end, x -> Canal.ship(x, NORTH, 9999), ShipCut.NO);
        Refused.due("a bad ship", end, x -> Canal.ship(x, NORTH, 10000), ShipCut.BAD);
        Refused.due("a convoy", end, x -> x.convoy(NORTH, 9999), ShipCut.NO);
        Refused.due("a bad convoy", end, x -> x.convoy(NORTH, 10000), ShipCut.BAD);
        Refused.due("a booking", end, x -> x.book(0, 1), ShipCut.NO);
        Refused.due("a section", end, x -> x.section(0, 1, 1, true), ShipCut.NO);
        ShipCut x = made(end);
        Check.due("minutes gone", x.count(2), 10000);
        Check.due("in since the last minute", x.told(0, 0), 0);
        Check.due("aground from then on", x.ground(0, 1), 1);
    }

    private static void toldBad() {
        Check.sentence("Of a SHIP: 0 where it is .. BAD answers -9.");
        for (int ship : NO_SHIP) {
            for (int what = 0; what < 9; what++) {
                Check.due("ship " + ship + ", what " + what, made(CallEdgesTest::busy).told(ship, what), -9);
            }
        }
        for (int what : new int[] {LEAST, -9, -1, 9, MOST}) {
            Check.due("what " + what, made(CallEdgesTest::busy).told(0, what), -9);
        }
        refused("no such ship", x -> x.told(9, 0), -9);
        refused("no such question", x -> x.told(0, 9), -9);
    }

    private static void toldPlaces() {
        Check.sentence("0 where it is (0 to 7; -1 not yet in; 8 OUT), 1 MINUTES to go there");
        ShipCut x = Canal.of("........", 2);
        Canal.convoyOf(x, SOUTH, 2, 2);
        Check.due("ahead of all", x.told(0, 0), -1);
        Check.due("nothing to go ahead of all", x.told(0, 1), 0);
        Canal.until(x, 3);
        Check.due("in its first section", x.told(0, 0), 7);
        Check.due("all to go", x.told(0, 1), 2);
        Check.due("in the line", x.told(1, 0), -1);
        Check.due("nothing to go in the line", x.told(1, 1), 0);
        Canal.until(x, 18);
        Check.due("in its last section", x.told(0, 0), 0);
        Check.due("one to go", x.told(0, 1), 1);
        x.minutes(1);
        Check.due("out", x.told(0, 0), 8);
        Check.due("nothing to go when out", x.told(0, 1), 0);
        Check.due("not aground when out", x.told(0, 7), 0);
    }

    private static void toldTimes() {
        Check.sentence("4 when it came in (NONE), 5 when it was OUT (NONE)");
        ShipCut x = Canal.of("BBBBBBBB", 1);
        Canal.convoyOf(x, NORTH, 1, 1);
        x.minutes(1);
        Check.due("not in", x.told(0, 4), ShipCut.NONE);
        x.minutes(1);
        Check.due("came in", x.told(0, 4), 1);
        Check.due("not out", x.told(0, 5), ShipCut.NONE);
        x.minutes(7);
        Check.due("in the last section, the same", x.told(0, 4), 1);
        Check.due("not out yet", x.told(0, 5), ShipCut.NONE);
        x.minutes(1);
        Check.due("out", x.told(0, 5), 9);
        Check.due("and the same", x.told(0, 4), 1);
    }

    private static void toldAground() {
        Check.sentence("7 MINUTES AGROUND that are left");
        ShipCut x = Canal.of("BBBBBBBB", 1);
        Canal.convoyOf(x, NORTH, 1, 1);
        Check.due("ahead of the first minute", x.told(0, 7), 0);
        x.minutes(2);
        Check.due("in a section", x.told(0, 7), 0);
        x.ground(0, 2);
        Check.due("all of them", x.told(0, 7), 2);
        x.minutes(1);
        Check.due("one of them", x.told(0, 7), 1);
        x.minutes(1);
        Check.due("none of them", x.told(0, 7), 0);
        x.minutes(1);
        Check.due("never less than none", x.told(0, 7), 0);
    }

    private static void toldConvoy() {
        Check.sentence("8 the CONVOY that it is BOOKED into or put off to (NONE)");
        ShipCut x = made(CallEdgesTest::busy);
        Check.due("booked into the first", x.told(0, 8), 0);
        Check.due("booked into another", x.told(3, 8), 1);
        Check.due("put off", x.told(5, 8), 2);
        Check.due("not booked", x.told(6, 8), ShipCut.NONE);
        x.minutes(300);
        Check.due("out", x.told(0, 0), 8);
        Check.due("it was booked all the same", x.told(0, 8), 0);
    }

    private static void waited() {
        Check.sentence("MINUTES that a SHIP waited by a CAUSE (0 to 6), -1: by all. BAD.");
        for (int ship : NO_SHIP) {
            for (int cause = -1; cause < 7; cause++) {
                Check.due("ship " + ship + ", cause " + cause, made(CallEdgesTest::busy).waited(ship, cause), ShipCut.BAD);
            }
        }
        for (int cause : new int[] {LEAST, -9, -2, 7, MOST}) {
            Check.due("cause " + cause, made(CallEdgesTest::busy).waited(0, cause), ShipCut.BAD);
        }
        refused("no such cause", x -> x.waited(0, 7), ShipCut.BAD);
        ShipCut x = made(CallEdgesTest::busy);
        x.minutes(60);
        for (int ship = 0; ship < 9; ship++) {
            int sum = 0;
            for (int cause = 0; cause < 7; cause++) {
                sum += x.waited(ship, cause);
            }
            Check.due("all of ship " + ship, x.waited(ship, -1), sum);
        }
        Check.holds("some have waited", x.waited(4, -1) > 0);
        Check.due("the one not booked has not", x.waited(7, -1), 0);
    }

    private static void waitedByAll() {
        // North 1 waits in the line, is aground in section 0, and stands there behind north 0, whom
        // south keeps out of the chain up to minute 43; then the gap and the wind keep it there.
        ShipCut x = Canal.of("B.......", 6);
        x.section(0, 6, 5, true);
        Canal.convoyOf(x, NORTH, 1, 1);
        x.book(0, x.ship(NORTH, 0, true, 6, false, 1));
        x.wind(0, 7);
        Canal.convoyOf(x, SOUTH, 1, 1);
        Canal.until(x, 8);
        x.tide(0, 1);
        x.minutes(1);
        Check.due("came in", x.told(1, 4), 8);
        x.ground(1, 4);
        Canal.until(x, 60);
        int[] want = {4, 0, 0, 4 + 5, 2, 11, 1 + 26};
        for (int cause = 0; cause < 7; cause++) {
            Check.due("by " + cause, x.waited(1, cause), want[cause]);
        }
        Check.due("by all", x.waited(1, -1), 53);
        Check.due("oncoming", x.waited(0, Canal.ONCOMING), 37);
        Check.due("oncoming alone", x.waited(0, -1), 37);
        ShipCut y = Canal.of("BBBBBBBB", 60);
        y.rule(0, 0);
        Canal.convoyOf(y, NORTH, 1, 4);
        Canal.until(y, 10);
        Check.due("crowded", y.waited(3, Canal.CROWDED), 6);
        Check.due("queue and crowded", y.waited(3, -1), 9);
    }

    private static void line() {
        Check.sentence("The i-th in a LINE. NONE; BAD.");
        Refused.Lead three = x -> {
            x.section(7, 20, 1, false);
            x.convoy(SOUTH, 1);
            for (int i = 0; i < 3; i++) {
                x.book(0, x.ship(SOUTH, 0, false, 45, false, 1));
            }
            x.minutes(2);
        };
        ShipCut x = made(three);
        for (int i = 0; i < 3; i++) {
            Check.due("the line, " + i, x.line(SOUTH, i), i);
        }
        for (int i : new int[] {3, 29, 30, 1000, MOST}) {
            Check.due("behind the line, " + i, x.line(SOUTH, i), ShipCut.NONE);
        }
        for (int i : new int[] {0, 1, MOST}) {
            Check.due("an empty line, " + i, x.line(NORTH, i), ShipCut.NONE);
        }
        for (int i : new int[] {-1, -2, LEAST}) {
            Refused.due("the line, " + i, three, y -> y.line(SOUTH, i), ShipCut.BAD);
            Refused.due("an empty line, " + i, three, y -> y.line(NORTH, i), ShipCut.BAD);
        }
        for (int way : new int[] {LEAST, -1, 2, MOST}) {
            Refused.due("way " + way, three, y -> y.line(way, 0), ShipCut.BAD);
        }
    }

    private static void in() {
        Check.sentence("The i-th in a SECTION of a WAY, by order of coming in. NONE; BAD.");
        Refused.Lead three = x -> {
            x.rule(0, 0);
            Canal.convoyOf(x, SOUTH, 1, 4);
            x.minutes(4);
        };
        ShipCut x = made(three);
        for (int i = 0; i < 3; i++) {
            Check.due("in 7, " + i, x.in(7, SOUTH, i), i);
        }
        for (int i : new int[] {3, 4, 30, MOST}) {
            Check.due("behind those in 7, " + i, x.in(7, SOUTH, i), ShipCut.NONE);
        }
        for (int s = 0; s < 7; s++) {
            Check.due("an empty section " + s, x.in(s, SOUTH, 0), ShipCut.NONE);
        }
        Check.due("none of the other way", x.in(7, NORTH, 0), ShipCut.NONE);
        for (int i : new int[] {-1, -2, LEAST}) {
            Refused.due("in 7, " + i, three, y -> y.in(7, SOUTH, i), ShipCut.BAD);
        }
        for (int bad : new int[] {LEAST, -1, 8, MOST}) {
            Refused.due("in section " + bad, three, y -> y.in(bad, SOUTH, 0), ShipCut.BAD);
            Refused.due("in 7 of way " + bad, three, y -> y.in(7, bad, 0), ShipCut.BAD);
        }
        Refused.due("in 7 of way 2", three, y -> y.in(7, 2, 0), ShipCut.BAD);
    }

    private static void count() {
        Check.sentence("How many: 0 SHIPS, 1 CONVOYS, 2 MINUTES gone, 3 OUT, 4 LEFT, 5 LATE, 6 in SECTIONS, 7 .. BAD.");
        for (int what : new int[] {LEAST, -2, -1, 8, MOST}) {
            refused("count " + what, x -> x.count(what), ShipCut.BAD);
        }
        ShipCut x = made(CallEdgesTest::fullFleet);
        Check.due("all ships that there can be", x.count(0), 30);
        Check.due("minutes gone", x.count(2), 9);
        Check.due("all convoys that there can be", made(CallEdgesTest::fullOfConvoys).count(1), 12);
        Check.due("all minutes that there can be", made(CallEdgesTest::end).count(2), 10000);
        Check.due("none out", x.count(3), 0);
        Check.due("none left", x.count(4), 0);
        Check.due("one late", x.count(5), 1);
        Check.due("in sections", x.count(6), 4);
        x.minutes(300);
        Check.due("all of them out", x.count(3), 6);
        Check.due("none in sections", x.count(6), 0);
        Check.due("late for good", x.count(5), 1);
    }

    private static void countOfWays() {
        Check.sentence("7 how many WAYS there are ships of, at most, in one SECTION that is no BYPASS");
        ShipCut x = Canal.of("...B....", 4);
        Check.due("empty", x.count(7), 0);
        Canal.convoyOf(x, NORTH, 1, 1);
        Canal.convoyOf(x, SOUTH, 1, 1);
        x.minutes(1);
        Check.due("none came in yet", x.count(7), 0);
        x.minutes(1);
        Check.due("one way in 0, another in 7, none of both", x.count(7), 1);
        ShipCut y = Canal.of("BBBBBBBB", 4);
        Canal.convoyOf(y, NORTH, 1, 1);
        Canal.convoyOf(y, SOUTH, 1, 1);
        Canal.until(y, 16);
        Check.due("bypasses are not asked for", y.count(7), 0);
        ShipCut z = Canal.of("BBB.BBBB", 9);
        Canal.convoyOf(z, NORTH, 1, 1);
        Canal.convoyOf(z, SOUTH, 1, 1);
        Canal.until(z, 35);
        Check.due("north is in 3", z.told(0, 0), 3);
        Check.due("one way in it, two in none", z.count(7), 1);
    }

    private static void countOfWaysInEach() {
        for (int way = 0; way < 2; way++) {
            for (int s = 0; s < 8; s++) {
                ShipCut x = Canal.of("BBBBBBBB", 1);
                x.section(s, 1, 40, false);
                Canal.convoyOf(x, way, 1, 1);
                for (int k = 0; k < 8; k++) {
                    Canal.until(x, 2 + k);
                    int where = way == NORTH ? k : 7 - k;
                    Check.due("one of way " + way + " in " + where + ", no bypass is " + s, x.count(7), where == s ? 1 : 0);
                }
                x.minutes(1);
                Check.due("out", x.count(7), 0);
            }
        }
    }

    private static void lastOfTheCalls() {
        Check.sentence("An object is used for at most 512 calls after it has been made");
        ShipCut x = new ShipCut();
        for (int call = 1; call <= 512; call++) {
            Check.due("call " + call, x.minutes(1), call);
        }
    }
}

/** Promise 10, minutes; and how a minute goes: moving, coming in, each cause of waiting. */
public final class MinutesTest {
    private static final int NORTH = Canal.NORTH, SOUTH = Canal.SOUTH;

    public static void main(String[] args) {
        bounds();
        wayThrough();
        slowWayThrough();
        oneAMinuteFromTheLine();
        oncomingInTheChain();
        chainsEndAtBypasses();
        oncomingGoesAheadOfGap();
        northMovesAheadOfSouth();
        crowded();
        gaps();
        gapOfOneGone();
        noGapAtTheEnd();
        queueInSection();
        tides();
        tideOfInnerSections();
        winds();
        windInBypass();
        firstCauseCounts();
        Check.finish();
    }

    private static void bounds() {
        ShipCut x = new ShipCut();
        for (int n : new int[] {0, -1, 301, Integer.MIN_VALUE, Integer.MAX_VALUE}) {
            Check.due("minutes " + n, x.minutes(n), ShipCut.BAD);
        }
        Check.due("no minute has gone", x.count(2), 0);
        Check.due("one", x.minutes(1), 1);
        Check.due("most", x.minutes(300), 301);
        Canal.until(x, 9990);
        Check.due("beyond the end", x.minutes(11), ShipCut.FULL);
        Check.due("bad goes ahead of full", x.minutes(301), ShipCut.BAD);
        Check.due("nothing changed", x.count(2), 9990);
        Check.due("the last minute can be told", x.convoy(NORTH, 9999), 0);
        x.book(0, x.ship(NORTH, 9999, false, 1, false, 1));
        Check.due("up to the end", x.minutes(10), 10000);
        Check.due("the last minute went", x.told(0, 4), 9999);
        Check.due("after the end", x.minutes(1), ShipCut.FULL);
        Check.due("no ship after the end", x.ship(NORTH, 9999, false, 1, false, 1), ShipCut.NO);
        Check.due("no convoy after the end", x.convoy(NORTH, 9999), ShipCut.NO);
    }

    private static void wayThrough() {
        ShipCut x = new ShipCut();
        for (int s = 0; s < 8; s++) {
            x.section(s, s + 1, 40, false);
        }
        Canal.convoyOf(x, NORTH, 2, 1);
        int[] comesAt = {2, 3, 5, 8, 12, 17, 23, 30};
        for (int s = 0; s < 8; s++) {
            Canal.until(x, comesAt[s]);
            Check.due("a minute ahead of " + s, x.told(0, 0), s - 1);
            Check.due("a minute is left to go, ahead of " + s, x.told(0, 1), s == 0 ? 0 : 1);
            x.minutes(1);
            Check.due("in " + s, x.told(0, 0), s);
            Check.due("to go in " + s, x.told(0, 1), s + 1);
            Check.due("the row of " + s, x.in(s, NORTH, 0), 0);
        }
        Canal.until(x, 38);
        Check.due("in the last one", x.told(0, 0), 7);
        x.minutes(1);
        Check.due("out", x.told(0, 0), 8);
        Check.due("out at", x.told(0, 5), 38);
        Check.due("came in at", x.told(0, 4), 2);
        Check.due("nothing to go", x.told(0, 1), 0);
        Check.due("the last section is free", x.in(7, NORTH, 0), ShipCut.NONE);
        Check.due("never waited", x.waited(0, -1), 0);
    }

    private static void slowWayThrough() {
        ShipCut x = new ShipCut();
        for (int s = 0; s < 8; s++) {
            x.section(s, s + 1, 40, false);
        }
        x.convoy(SOUTH, 1);
        x.book(0, x.ship(SOUTH, 0, false, 1, true, 1));
        Canal.until(x, 2);
        Check.due("from the north end", x.told(0, 0), 7);
        Check.due("twice the length", x.told(0, 1), 16);
        Canal.until(x, 17);
        Check.due("the last minute of 7", x.told(0, 0), 7);
        x.minutes(1);
        Check.due("then 6", x.told(0, 0), 6);
        Check.due("twice its length", x.told(0, 1), 14);
        Canal.until(x, 74);
        Check.due("out at the south end", x.told(0, 5), 73);
    }

    private static void oneAMinuteFromTheLine() {
        ShipCut x = Canal.of("........", 1);
        x.rule(0, 0);
        Canal.convoyOf(x, NORTH, 1, 3);
        Canal.until(x, 4);
        for (int i = 0; i < 3; i++) {
            Check.due("came in one by one " + i, x.told(i, 4), 1 + i);
            Check.due("waited in the queue " + i, x.waited(i, Canal.QUEUE), i);
            Check.due("by nothing else " + i, x.waited(i, -1), i);
        }
    }

    private static void oncomingInTheChain() {
        ShipCut x = Canal.of("........", 2);
        Canal.convoyOf(x, NORTH, 1, 1);
        Canal.convoyOf(x, SOUTH, 1, 1);
        // North is in the chain from 1 until it is out at 17; in that minute south, behind it, comes in.
        Canal.until(x, 17);
        Check.due("kept out by one at the other end", x.told(1, 0), -1);
        Check.due("each minute by oncoming", x.waited(1, Canal.ONCOMING), 16);
        Check.due("one way in a section", x.count(7), 1);
        x.minutes(1);
        Check.due("north is out", x.told(0, 5), 17);
        Check.due("south came in at once", x.told(1, 4), 17);

        ShipCut y = Canal.of("........", 2);
        Canal.convoyOf(y, SOUTH, 1, 1);
        Canal.convoyOf(y, NORTH, 2, 1);
        Canal.until(y, 17);
        Check.due("south is in the chain", y.told(0, 0), 0);
        Check.due("north is kept out from its start on", y.waited(1, Canal.ONCOMING), 15);
    }

    private static void chainsEndAtBypasses() {
        ShipCut x = Canal.of("..B..B..", 4);
        Canal.convoyOf(x, NORTH, 1, 1);
        Canal.convoyOf(x, SOUTH, 1, 1);
        // Both reach their first bypass at 9 and want the middle chain at 13: north moves first.
        Canal.until(x, 2);
        Check.due("chains do not touch", x.told(1, 0), 7);
        Canal.until(x, 10);
        Check.due("north in its bypass", x.told(0, 0), 2);
        Check.due("south in its bypass", x.told(1, 0), 5);
        Canal.until(x, 22);
        Check.due("north took the middle", x.told(0, 0), 5);
        Check.due("south waited in the bypass until north was through", x.waited(1, Canal.ONCOMING), 8);
        Check.due("and goes when it is in the bypass", x.told(1, 0), 4);
        Check.due("north did not wait", x.waited(0, -1), 0);

        ShipCut y = Canal.of("BBBBBBBB", 4);
        Canal.convoyOf(y, NORTH, 1, 1);
        Canal.convoyOf(y, SOUTH, 1, 1);
        Canal.until(y, 34);
        Check.due("all bypasses: north is out", y.told(0, 5), 33);
        Check.due("all bypasses: south is out", y.told(1, 5), 33);
        Check.due("bypasses do not count", y.count(7), 0);
    }

    private static void oncomingGoesAheadOfGap() {
        // South waits in bypass 1 and takes section 0 in the minute that north leaves it.
        ShipCut x = Canal.of(".BBBBBBB", 2);
        Canal.convoyOf(x, SOUTH, 1, 1);
        x.convoy(NORTH, 15);
        x.book(1, Canal.ship(x, NORTH, 0));
        x.book(1, Canal.ship(x, NORTH, 0));
        Canal.until(x, 15);
        Check.due("south stands in 1", x.told(0, 0), 1);
        x.minutes(1);
        Check.due("south moves ahead of the lines", x.told(0, 0), 0);
        Check.due("north waits", x.waited(1, Canal.ONCOMING), 1);
        x.minutes(2);
        Check.due("south is out", x.told(0, 5), 17);
        Check.due("north came in then", x.told(1, 4), 17);
        x.minutes(1);
        Check.due("gap for the next", x.waited(2, Canal.GAP), 1);
        Check.due("in the queue until then", x.waited(2, Canal.QUEUE), 3);
        int south = Canal.ship(x, SOUTH, 19);
        x.book(x.convoy(SOUTH, 20), south);
        Canal.until(x, 34);
        Check.due("by the gap alone", x.waited(2, Canal.GAP), 4);
        Check.due("no oncoming for it", x.waited(2, Canal.ONCOMING), 0);
        int last = Canal.ship(x, NORTH, 34);
        x.book(x.convoy(NORTH, 35), last);
        Canal.until(x, 35);
        x.rule(0, 60);
        x.minutes(1);
        Check.due("south came into 0", x.told(south, 0), 0);
        Check.due("oncoming though the gap bars too", x.waited(last, Canal.ONCOMING), 1);
        Check.due("not by the gap", x.waited(last, Canal.GAP), 0);
    }

    private static void northMovesAheadOfSouth() {
        // Both stand in the bypasses 3 and 5 with section 4 between them.
        ShipCut x = Canal.of("BBBB.BBB", 3);
        Canal.convoyOf(x, SOUTH, 1, 1);
        Canal.convoyOf(x, NORTH, 1, 1);
        // North is at 3 from 10 on and wants 4 at 13, south is at 5 from 7 and has 4 from 10 to 13.
        Canal.until(x, 14);
        Check.due("south came to 3 first", x.told(0, 0), 3);
        Check.due("north went ahead of that in the minute and had to wait", x.waited(1, Canal.ONCOMING), 1);
        Check.due("both are in the bypass", x.in(3, NORTH, 0), 1);
        Check.due("both are in the bypass", x.in(3, SOUTH, 0), 0);
        x.minutes(1);
        Check.due("north goes on", x.told(1, 0), 4);

        // In the lines too, north comes first.
        ShipCut y = Canal.of("........", 3);
        Canal.convoyOf(y, SOUTH, 1, 1);
        Canal.convoyOf(y, NORTH, 1, 1);
        Canal.until(y, 2);
        Check.due("north came in", y.told(1, 0), 0);
        Check.due("south did not", y.told(0, 0), -1);
    }

    private static void crowded() {
        ShipCut x = Canal.of("........", 30);
        x.rule(0, 0);
        Canal.convoyOf(x, NORTH, 1, 5);
        Canal.until(x, 4);
        Check.due("three are in", x.in(0, NORTH, 2), 2);
        Check.due("no fourth", x.in(0, NORTH, 3), ShipCut.NONE);
        x.rule(0, 60);
        Canal.until(x, 10);
        Check.due("crowded, though the gap bars too", x.waited(3, Canal.CROWDED), 6);
        Check.due("not by the gap", x.waited(3, Canal.GAP), 0);
        x.rule(0, 0);
        Canal.until(x, 31);
        Check.due("still crowded", x.told(3, 0), -1);
        x.minutes(1);
        Check.due("the first went on", x.told(0, 0), 1);
        Check.due("and the fourth came in, the same minute", x.told(3, 4), 31);
        Check.due("the order in the section", x.in(0, NORTH, 0), 1);
        Check.due("the last is behind", x.in(0, NORTH, 2), 3);
    }

    private static void gaps() {
        ShipCut x = Canal.of("........", 20);
        Canal.convoyOf(x, NORTH, 1, 3);
        Canal.until(x, 6);
        Check.due("less than 5 ago", x.waited(1, Canal.GAP), 4);
        x.minutes(1);
        Check.due("5 ago", x.told(1, 4), 6);
        x.rule(0, 2);
        x.minutes(2);
        Check.due("a shorter gap is kept at once", x.told(2, 4), 8);
        Canal.until(x, 24);
        Check.due("gaps hold in other sections", x.told(0, 0), 1);
        x.rule(0, 9);
        Canal.until(x, 29);
        Check.due("second waits for the gap in section 1", x.waited(1, Canal.GAP), 4 + 3);
    }

    private static void gapOfOneGone() {
        // The one who came in less than GAP ago need not be there any more; the other way does not count.
        ShipCut x = Canal.of("BBBBBBBB", 1);
        Canal.convoyOf(x, NORTH, 1, 2);
        Canal.convoyOf(x, SOUTH, 2, 1);
        Canal.until(x, 5);
        Check.due("the first is far", x.told(0, 0), 3);
        Check.due("the second waits by the gap", x.waited(1, Canal.GAP), 3);
        Canal.until(x, 9);
        Check.due("in at 6", x.told(1, 4), 6);
        Check.due("south needs no gap behind north", x.waited(2, -1), 0);
    }

    private static void noGapAtTheEnd() {
        // A slow one with two behind it: in the minute that it is out, so are they.
        ShipCut x = Canal.of("BBBBBBBB", 1);
        x.section(7, 30, 40, true);
        x.convoy(NORTH, 1);
        x.book(0, x.ship(NORTH, 0, false, 1, true, 1));
        x.book(0, Canal.ship(x, NORTH, 0));
        x.book(0, Canal.ship(x, NORTH, 0));
        Canal.until(x, 75);
        Check.due("the slow one is in 7", x.told(0, 0), 7);
        Check.due("both behind it", x.in(7, NORTH, 2), 2);
        Check.due("with nothing to go", x.told(2, 1), 0);
        x.minutes(1);
        for (int i = 0; i < 3; i++) {
            Check.due("out together " + i, x.told(i, 5), 75);
        }
        Check.due("three are out", x.count(3), 3);
    }

    private static void queueInSection() {
        // The slow one has 20 to go in section 0, the one behind it 10, from 5 minutes later on.
        ShipCut x = Canal.of("........", 10);
        x.convoy(NORTH, 1);
        x.book(0, x.ship(NORTH, 0, false, 1, true, 1));
        x.book(0, Canal.ship(x, NORTH, 0));
        Canal.until(x, 16);
        Check.due("under way it does not wait", x.waited(1, Canal.QUEUE), 1);
        x.minutes(1);
        Check.due("there it waits the minute in which it has none left", x.waited(1, Canal.QUEUE), 2);
        Canal.until(x, 21);
        Check.due("the slow one never waited", x.waited(0, -1), 0);
        Check.due("queue until the first is gone", x.waited(1, Canal.QUEUE), 6);
        x.minutes(1);
        Check.due("the first went on", x.told(0, 0), 1);
        Check.due("the second is the first now, and kept by the gap", x.waited(1, Canal.GAP), 4 + 1);
        Check.due("in that minute not by the queue", x.waited(1, Canal.QUEUE), 6);
        Canal.until(x, 27);
        Check.due("then it goes on", x.told(1, 0), 1);

        // Without a gap the one behind goes on in the same minute.
        ShipCut y = Canal.of("........", 10);
        y.rule(0, 0);
        y.convoy(NORTH, 1);
        y.book(0, y.ship(NORTH, 0, false, 1, true, 1));
        y.book(0, Canal.ship(y, NORTH, 0));
        Canal.until(y, 22);
        Check.due("both are in 1", y.in(1, NORTH, 0), 0);
        Check.due("in their order", y.in(1, NORTH, 1), 1);
    }

    private static void tides() {
        ShipCut x = Canal.of("BBBBBBBB", 10);
        x.section(0, 10, 15, true);
        x.section(7, 10, 15, true);
        x.tide(1, 4);
        x.tide(2, 5);
        x.convoy(NORTH, 1);
        x.convoy(SOUTH, 1);
        x.book(0, x.ship(NORTH, 0, false, 20, false, 1));
        x.book(1, x.ship(SOUTH, 0, false, 19, false, 1));
        Canal.until(x, 60);
        Check.due("too deep in hour 0", x.waited(0, Canal.TIDE), 59);
        Check.due("too deep in hour 0, at the north end", x.waited(1, Canal.TIDE), 59);
        x.minutes(1);
        Check.due("as deep as it draws in hour 1", x.told(1, 4), 60);
        Canal.until(x, 121);
        Check.due("hour 2", x.told(0, 4), 120);

        // The hours begin again after a day.
        ShipCut y = Canal.of("BBBBBBBB", 10);
        y.section(0, 10, 15, true);
        y.tide(1, 1);
        y.convoy(NORTH, 1439);
        y.book(0, y.ship(NORTH, 1439, false, 16, false, 1));
        Canal.until(y, 1501);
        Check.due("hour 1 of the next day", y.told(0, 4), 1500);
        Check.due("waited for it", y.waited(0, Canal.TIDE), 61);
    }

    private static void tideOfInnerSections() {
        ShipCut x = Canal.of("BBBBBBBB", 2);
        x.section(1, 2, 15, true);
        for (int hour = 0; hour < 24; hour++) {
            x.tide(hour, 9);
        }
        x.convoy(NORTH, 1);
        x.book(0, x.ship(NORTH, 0, false, 16, false, 1));
        x.convoy(SOUTH, 1);
        x.book(1, x.ship(SOUTH, 0, false, 15, false, 1));
        Canal.until(x, 20);
        Check.due("no tide in section 1", x.told(0, 0), 0);
        Check.due("waits in section 0 by tide", x.waited(0, Canal.TIDE), 17);
        Check.due("as deep as it draws", x.told(1, 5), 17);
    }

    private static void winds() {
        ShipCut x = Canal.of("........", 60);
        x.rule(0, 0);
        x.wind(0, 7);
        x.wind(1, -1);
        x.wind(2, 12);
        x.wind(3, 6);
        x.convoy(NORTH, 1);
        x.book(0, x.ship(NORTH, 0, false, 1, false, 1));
        x.book(0, x.ship(NORTH, 0, true, 1, false, 1));
        Canal.until(x, 2);
        Check.due("no great one comes in by any wind", x.told(0, 4), 1);
        Canal.until(x, 60);
        Check.due("above 6 bars a great one", x.waited(1, Canal.WIND), 58);
        Canal.until(x, 120);
        Check.due("a missing one bars it", x.waited(1, Canal.WIND), 118);
        Canal.until(x, 181);
        Check.due("6 does not", x.told(1, 4), 180);
        Check.due("all its waiting", x.waited(1, Canal.WIND), 178);
    }

    private static void windInBypass() {
        ShipCut x = Canal.of("BB......", 5);
        x.wind(0, -1);
        x.convoy(NORTH, 1);
        x.book(0, x.ship(NORTH, 0, true, 1, false, 1));
        Canal.until(x, 7);
        Check.due("bypasses are free", x.told(0, 0), 1);
        Canal.until(x, 30);
        Check.due("but not what is behind them", x.told(0, 0), 1);
        Check.due("wind", x.waited(0, Canal.WIND), 19);
    }

    private static void firstCauseCounts() {
        // A great deep ship: gap, then tide, then wind, as each cause ahead falls away.
        ShipCut x = Canal.of("........", 60);
        x.section(0, 60, 15, false);
        x.wind(0, 9);
        x.convoy(NORTH, 1);
        x.book(0, Canal.ship(x, NORTH, 0));
        x.book(0, x.ship(NORTH, 0, true, 16, false, 1));
        x.convoy(SOUTH, 1);
        x.book(1, x.ship(SOUTH, 0, true, 45, false, 1));
        Canal.until(x, 6);
        Check.due("gap", x.waited(1, Canal.GAP), 4);
        x.minutes(2);
        Check.due("tide", x.waited(1, Canal.TIDE), 2);
        x.tide(0, 1);
        x.minutes(3);
        Check.due("wind", x.waited(1, Canal.WIND), 3);
        Check.due("no tide any more", x.waited(1, Canal.TIDE), 2);
        Check.due("one cause a minute", x.waited(1, -1), 10);
        Check.due("oncoming goes ahead of tide and wind", x.waited(2, Canal.ONCOMING), 10);
        Check.due("and is the only one", x.waited(2, -1), 10);
    }
}

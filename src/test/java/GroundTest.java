/** Promise 9, ground, and what waits for a ship that is aground. */
public final class GroundTest {
    private static final int NORTH = Canal.NORTH, SOUTH = Canal.SOUTH;

    public static void main(String[] args) {
        answers();
        standsStill();
        thoseBehindAndAhead();
        theSectionIsBarred();
        barsBothWaysOfBypass();
        aroundTheLastMinute();
        again();
        Check.finish();
    }

    private static void answers() {
        ShipCut x = Canal.of("BBBBBBBB", 10);
        Canal.convoyOf(x, NORTH, 1, 2);
        int[][] bad = {{-1, 5}, {2, 5}, {0, 0}, {0, 501}, {0, -3}, {Integer.MAX_VALUE, 5}, {0, Integer.MIN_VALUE}};
        Check.due("not yet in", x.ground(0, 5), ShipCut.NO);
        Canal.until(x, 2);
        for (int[] b : bad) {
            Check.due("bad ground " + b[0] + " " + b[1], x.ground(b[0], b[1]), ShipCut.BAD);
        }
        Check.due("still in the line", x.ground(1, 5), ShipCut.NO);
        Check.due("nothing changed", x.told(0, 7), 0);
        Check.due("aground", x.ground(0, 500), 1);
        Check.due("aground already", x.ground(0, 1), ShipCut.NO);
        Check.due("bad goes ahead of no", x.ground(0, 501), ShipCut.BAD);
        Check.due("left of it", x.told(0, 7), 500);
        ShipCut y = Canal.of("BBBBBBBB", 1);
        Canal.convoyOf(y, NORTH, 1, 1);
        Canal.until(y, 10);
        Check.due("out", y.told(0, 0), 8);
        Check.due("one that is out", y.ground(0, 1), ShipCut.NO);
    }

    private static void standsStill() {
        ShipCut x = Canal.of("BBBBBBBB", 10);
        Canal.convoyOf(x, NORTH, 1, 1);
        Canal.until(x, 5);
        Check.due("to go", x.told(0, 1), 7);
        x.ground(0, 3);
        Canal.until(x, 7);
        Check.due("left", x.told(0, 7), 1);
        Check.due("aground to the last minute", x.ground(0, 9), ShipCut.NO);
        Check.due("no minute less", x.told(0, 1), 7);
        Canal.until(x, 8);
        Check.due("none left", x.told(0, 7), 0);
        Check.due("still no minute less", x.told(0, 1), 7);
        Check.due("each minute by 0", x.waited(0, Canal.GROUNDED), 3);
        Canal.until(x, 9);
        Check.due("under way again", x.told(0, 1), 6);
        Check.due("and waits no more", x.waited(0, -1), 3);
    }

    private static void thoseBehindAndAhead() {
        ShipCut x = Canal.of("BBBBBBBB", 20);
        Canal.convoyOf(x, NORTH, 1, 3);
        Canal.until(x, 12);
        Check.due("three in the section", x.in(0, NORTH, 2), 2);
        x.ground(1, 30);
        Canal.until(x, 22);
        Check.due("the one ahead goes on", x.told(0, 0), 1);
        Check.due("the one aground", x.waited(1, Canal.GROUNDED), 10);
        Check.due("the one behind too", x.waited(2, Canal.GROUNDED), 10);
        Check.due("has no minute less", x.told(2, 1), 20);
        Check.due("the one ahead did not wait", x.waited(0, -1), 0);
        Canal.until(x, 62);
        Check.due("30 minutes in all", x.waited(2, Canal.GROUNDED), 30);
        Check.due("it came to section 1 then", x.told(2, 0), 1);
        Check.due("behind the other", x.in(1, NORTH, 0), 1);
    }

    private static void theSectionIsBarred() {
        ShipCut x = Canal.of("........", 10);
        x.rule(0, 1);
        Canal.convoyOf(x, NORTH, 1, 4);
        Canal.convoyOf(x, SOUTH, 1, 1);
        Canal.until(x, 12);
        Check.due("the first is in 1", x.told(0, 0), 1);
        x.ground(0, 20);
        Canal.until(x, 14);
        Check.due("first of the section behind: by 0", x.waited(1, Canal.GROUNDED), 2);
        Check.due("those behind it: queue", x.waited(2, Canal.GROUNDED), 0);
        Check.due("queue", x.waited(2, Canal.QUEUE), 2 + 1);
        Check.due("oncoming stays oncoming at the other end", x.waited(4, Canal.ONCOMING), 13);
        Check.due("not by 0", x.waited(4, Canal.GROUNDED), 0);
        Canal.until(x, 32);
        Check.due("twenty minutes", x.waited(1, Canal.GROUNDED), 20);
        x.minutes(1);
        Check.due("then it goes on", x.told(1, 0), 1);
    }

    private static void barsBothWaysOfBypass() {
        ShipCut x = Canal.of("BBBBBBBB", 10);
        Canal.convoyOf(x, NORTH, 1, 2);
        x.convoy(SOUTH, 50);
        x.book(1, Canal.ship(x, SOUTH, 0));
        Canal.until(x, 2);
        x.ground(0, 100);
        Canal.until(x, 4);
        Check.due("the line waits by 0, ahead of the gap", x.waited(1, Canal.GROUNDED), 2);
        Canal.until(x, 102);
        Check.due("no one came in", x.told(1, 0), -1);
        x.minutes(1);
        Check.due("in when it is afloat", x.told(1, 4), 102);
        Canal.until(x, 120);
        Check.due("south passed none of it yet", x.waited(2, -1), 0);

        ShipCut y = Canal.of("BBBBBBBB", 10);
        Canal.convoyOf(y, NORTH, 1, 1);
        y.convoy(SOUTH, 73);
        y.book(1, Canal.ship(y, SOUTH, 0));
        Canal.until(y, 72);
        Check.due("north is in 7", y.told(0, 0), 7);
        y.ground(0, 5);
        Canal.until(y, 77);
        Check.due("one of the other way bars a bypass too", y.waited(1, Canal.GROUNDED), 4);
        y.minutes(1);
        Check.due("then south comes in", y.told(1, 4), 77);

        ShipCut w = Canal.of("BBBBBBBB", 10);
        Canal.convoyOf(w, SOUTH, 1, 1);
        Canal.convoyOf(w, NORTH, 73, 1);
        Canal.until(w, 72);
        Check.due("south is in 0", w.told(0, 0), 0);
        w.ground(0, 5);
        Canal.until(w, 78);
        Check.due("a south one bars north as well", w.waited(1, Canal.GROUNDED), 4);
        Check.due("until it is afloat", w.told(1, 4), 77);

        // Of one way in the section, those of the other way there go on.
        ShipCut z = Canal.of("BBBBBBBB", 10);
        Canal.convoyOf(z, NORTH, 1, 1);
        Canal.convoyOf(z, SOUTH, 70, 1);
        Canal.until(z, 73);
        Check.due("north is in 7", z.told(0, 0), 7);
        Check.due("south is in 7", z.told(1, 0), 7);
        z.ground(0, 50);
        Canal.until(z, 81);
        Check.due("south has gone on", z.told(1, 0), 6);
        Check.due("without waiting", z.waited(1, -1), 0);
    }

    private static void aroundTheLastMinute() {
        // One with nothing to go waits by 0 while it is aground, whatever else bars it.
        ShipCut x = Canal.of("........", 5);
        x.section(1, 5, 10, false);
        x.convoy(NORTH, 1);
        x.book(0, x.ship(NORTH, 0, false, 11, false, 1));
        Canal.until(x, 10);
        Check.due("tide", x.waited(0, Canal.TIDE), 4);
        x.ground(0, 6);
        Canal.until(x, 20);
        Check.due("aground", x.waited(0, Canal.GROUNDED), 6);
        Check.due("tide again", x.waited(0, Canal.TIDE), 8);
    }

    private static void again() {
        ShipCut x = Canal.of("BBBBBBBB", 60);
        Canal.convoyOf(x, NORTH, 1, 1);
        Canal.until(x, 2);
        Check.due("aground", x.ground(0, 1), 1);
        x.minutes(1);
        Check.due("again after it", x.ground(0, 2), 1);
        x.minutes(3);
        Check.due("three minutes in all", x.waited(0, Canal.GROUNDED), 3);
        Check.due("one minute under way", x.told(0, 1), 59);
    }
}

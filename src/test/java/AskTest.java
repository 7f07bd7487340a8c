/** Promises 11 to 15: told, waited, line, in, count; and the dues of part 3. */
public final class AskTest {
    private static final int NORTH = Canal.NORTH, SOUTH = Canal.SOUTH;

    public static void main(String[] args) {
        constants();
        toldAtFirst();
        badAsks();
        duesOfTons();
        duesOfLate();
        duesOfGrounded();
        waits();
        rows();
        counts();
        Check.finish();
    }

    private static void constants() {
        Check.due("BAD", ShipCut.BAD, -1);
        Check.due("NO", ShipCut.NO, -2);
        Check.due("FULL", ShipCut.FULL, -3);
        Check.due("NONE", ShipCut.NONE, -4);
    }

    private static void toldAtFirst() {
        ShipCut x = new ShipCut();
        x.ship(NORTH, 5, true, 3, false, 10);
        int[] want = {-1, 0, 0, 0, ShipCut.NONE, ShipCut.NONE, 30, 0, ShipCut.NONE};
        for (int what = 0; what < want.length; what++) {
            Check.due("told at first " + what, x.told(0, what), want[what]);
        }
        for (int cause = -1; cause <= 6; cause++) {
            Check.due("waited at first " + cause, x.waited(0, cause), 0);
        }
    }

    private static void badAsks() {
        ShipCut x = new ShipCut();
        x.ship(NORTH, 5, true, 3, false, 10);
        int[] wild = {Integer.MIN_VALUE, -100, -2, Integer.MAX_VALUE, 100};
        for (int w : wild) {
            Check.due("told of ship " + w, x.told(w, 0), -9);
            Check.due("told what " + w, x.told(0, w), -9);
            Check.due("waited of ship " + w, x.waited(w, 0), ShipCut.BAD);
            Check.due("waited by " + w, x.waited(0, w), ShipCut.BAD);
            Check.due("line of way " + w, x.line(w, 0), ShipCut.BAD);
            Check.due("in section " + w, x.in(w, 0, 0), ShipCut.BAD);
            Check.due("in of way " + w, x.in(0, w, 0), ShipCut.BAD);
            Check.due("count " + w, x.count(w), ShipCut.BAD);
            Check.due("line i " + w, x.line(0, w), w < 0 ? ShipCut.BAD : ShipCut.NONE);
            Check.due("in i " + w, x.in(0, 0, w), w < 0 ? ShipCut.BAD : ShipCut.NONE);
        }
        Check.due("told of ship 1", x.told(1, 0), -9);
        Check.due("told of ship -1", x.told(-1, 0), -9);
        Check.due("told what 9", x.told(0, 9), -9);
        Check.due("told what -1", x.told(0, -1), -9);
        Check.due("waited of ship 1", x.waited(1, 0), ShipCut.BAD);
        Check.due("waited by 7", x.waited(0, 7), ShipCut.BAD);
        Check.due("line of way 2", x.line(2, 0), ShipCut.BAD);
        Check.due("line of way -1", x.line(-1, 0), ShipCut.BAD);
        Check.due("line i -1", x.line(1, -1), ShipCut.BAD);
        Check.due("in section 8", x.in(8, 0, 0), ShipCut.BAD);
        Check.due("in section -1", x.in(-1, 0, 0), ShipCut.BAD);
        Check.due("in of way 2", x.in(7, 2, 0), ShipCut.BAD);
        Check.due("in i -1", x.in(7, 1, -1), ShipCut.BAD);
        Check.due("count 8", x.count(8), ShipCut.BAD);
        Check.due("count -1", x.count(-1), ShipCut.BAD);
    }

    private static void duesOfTons() {
        ShipCut x = new ShipCut();
        int[][] dues = {{1, 3}, {4999, 14997}, {5000, 15000}, {5001, 15002}, {20000, 45000}, {20001, 45001},
            {200000, 225000}};
        for (int i = 0; i < dues.length; i++) {
            x.ship(NORTH, 0, false, 1, false, dues[i][0]);
            Check.due("dues of " + dues[i][0], x.told(i, 6), dues[i][1]);
        }
    }

    private static void duesOfLate() {
        ShipCut x = new ShipCut();
        x.convoy(NORTH, 1);
        x.book(0, x.ship(NORTH, 2, false, 1, false, 13));
        x.book(0, x.ship(NORTH, 3, false, 1, false, 3));
        x.book(0, x.ship(NORTH, 3, false, 1, false, 10));
        Canal.until(x, 2);
        Check.due("not late yet", x.told(0, 6), 39);
        x.minutes(1);
        Check.due("a tenth more, cut", x.told(0, 6), 42);
        x.minutes(50);
        Check.due("once", x.told(0, 6), 42);
        Check.due("nothing of little", x.told(1, 6), 9);
        Check.due("a tenth of 30", x.told(2, 6), 33);
    }

    private static void duesOfGrounded() {
        ShipCut x = Canal.of("BBBBBBBB", 60);
        x.rule(1, 1);
        x.convoy(NORTH, 1);
        x.book(0, x.ship(NORTH, 2, false, 1, false, 33));
        x.book(0, x.ship(NORTH, 1, false, 1, false, 33));
        x.convoy(NORTH, 3);
        x.book(1, x.ship(NORTH, 3, false, 1, false, 20));
        Canal.until(x, 14);
        Check.due("late: 99 and 9", x.told(0, 6), 108);
        Check.due("not late", x.told(1, 6), 99);
        Check.due("aground", x.ground(1, 61), 1);
        Canal.until(x, 74);
        Check.due("60 minutes are not more than 60", x.told(1, 6), 99);
        Check.due("nor for the one behind", x.told(0, 6), 108);
        x.minutes(1);
        Check.due("61: 99 less 4", x.told(1, 6), 95);
        Check.due("61: 108 less 5", x.told(0, 6), 103);
        Check.due("61: 60 less 3", x.told(2, 6), 57);
    }

    private static void waits() {
        ShipCut x = Canal.of("........", 20);
        x.wind(0, 7);
        Canal.convoyOf(x, NORTH, 1, 2);
        x.book(0, x.ship(NORTH, 0, true, 1, false, 1));
        Canal.until(x, 20);
        int[] second = {0, 0, 0, 4, 0, 0, 1};
        int[] third = {0, 0, 0, 4, 0, 9, 6};
        for (int cause = 0; cause < 7; cause++) {
            Check.due("second by " + cause, x.waited(1, cause), second[cause]);
            Check.due("third by " + cause, x.waited(2, cause), third[cause]);
        }
        Check.due("second in all", x.waited(1, -1), 5);
        Check.due("third in all", x.waited(2, -1), 19);
    }

    private static void rows() {
        ShipCut x = Canal.of("...BB...", 20);
        Canal.convoyOf(x, SOUTH, 1, 4);
        Canal.convoyOf(x, NORTH, 1, 1);
        Canal.until(x, 7);
        Check.due("first in 7", x.in(7, SOUTH, 0), 0);
        Check.due("second in 7", x.in(7, SOUTH, 1), 1);
        Check.due("no third in 7", x.in(7, SOUTH, 2), ShipCut.NONE);
        Check.due("none of the other way in 7", x.in(7, NORTH, 0), ShipCut.NONE);
        Check.due("north in 0", x.in(0, NORTH, 0), 4);
        Check.due("first in the line", x.line(SOUTH, 0), 2);
        Check.due("second in the line", x.line(SOUTH, 1), 3);
        Check.due("no third in the line", x.line(SOUTH, 2), ShipCut.NONE);
        Check.due("none in the other line", x.line(NORTH, 0), ShipCut.NONE);
    }

    private static void counts() {
        ShipCut x = Canal.of("BBBBBBB.", 2);
        x.rule(0, 0);
        Canal.convoyOf(x, NORTH, 1, 3);
        x.convoy(SOUTH, 1);
        x.book(1, Canal.ship(x, SOUTH, 2));
        x.book(0, Canal.ship(x, NORTH, 3));
        Check.due("ships", x.count(0), 5);
        Check.due("convoys", x.count(1), 2);
        Canal.until(x, 4);
        Check.due("minutes gone", x.count(2), 4);
        Check.due("none out", x.count(3), 0);
        Check.due("two left", x.count(4), 2);
        Check.due("two late", x.count(5), 2);
        Check.due("three in sections", x.count(6), 3);
        Check.due("bypasses alone hold them", x.count(7), 0);
        Canal.until(x, 16);
        Check.due("the last section is no bypass", x.count(7), 1);
        Canal.until(x, 18);
        Check.due("one is out", x.count(3), 1);
        Check.due("two in sections", x.count(6), 2);
        Canal.until(x, 20);
        Check.due("three are out", x.count(3), 3);
        Check.due("none in sections", x.count(6), 0);
        Check.due("no way any more", x.count(7), 0);

        ShipCut y = Canal.of(".BBBBBBB", 2);
        Canal.convoyOf(y, SOUTH, 1, 1);
        Canal.until(y, 15);
        Check.due("in bypasses until now", y.count(7), 0);
        y.minutes(1);
        Check.due("one of the south way in section 0", y.count(7), 1);
    }
}

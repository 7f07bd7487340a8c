/** Promises 6 to 8: ship, convoy, book; and how booked and late ships come to the line. */
public final class BookingTest {
    private static final int NORTH = Canal.NORTH, SOUTH = Canal.SOUTH;

    public static void main(String[] args) {
        ships();
        convoys();
        books();
        booksInFull();
        orderOfConvoys();
        lateByRuleOne();
        lateByRuleZero();
        leftForGood();
        lateOfBothWays();
        Check.finish();
    }

    private static void ships() {
        ShipCut x = new ShipCut();
        int[][] bad = {{-1, 0, 1, 1}, {2, 0, 1, 1}, {0, -1, 1, 1}, {0, 10000, 1, 1}, {0, 0, 0, 1}, {0, 0, 46, 1},
            {0, 0, 1, 0}, {0, 0, 1, 200001}, {Integer.MIN_VALUE, 0, 1, 1}, {0, Integer.MAX_VALUE, 1, 1},
            {0, 0, Integer.MIN_VALUE, 1}, {0, 0, 1, Integer.MAX_VALUE}};
        for (int[] b : bad) {
            Check.due("bad ship " + b[0] + " " + b[1] + " " + b[2] + " " + b[3],
                x.ship(b[0], b[1], false, b[2], false, b[3]), ShipCut.BAD);
        }
        Check.due("no bad one counts", x.count(0), 0);
        Check.due("least ship", x.ship(0, 0, false, 1, false, 1), 0);
        Check.due("most ship", x.ship(1, 9999, true, 45, true, 200000), 1);
        x.minutes(5);
        Check.due("its minute is gone", x.ship(0, 4, false, 1, false, 1), ShipCut.NO);
        Check.due("bad goes ahead of no", x.ship(0, 4, false, 46, false, 1), ShipCut.BAD);
        Check.due("its minute is about to begin", x.ship(0, 5, false, 1, false, 1), 2);
        for (int i = 3; i < 30; i++) {
            Check.due("ship " + i, x.ship(i % 2, 6, false, 1, false, 1), i);
        }
        Check.due("31st ship", x.ship(0, 6, false, 1, false, 1), ShipCut.FULL);
        Check.due("no goes ahead of full", x.ship(0, 4, false, 1, false, 1), ShipCut.NO);
        Check.due("bad goes ahead of full", x.ship(0, 6, false, 1, false, 0), ShipCut.BAD);
        Check.due("30 ships", x.count(0), 30);
    }

    private static void convoys() {
        ShipCut x = new ShipCut();
        int[][] bad = {{-1, 1}, {2, 1}, {0, -1}, {0, 10000}, {Integer.MAX_VALUE, 1}, {0, Integer.MIN_VALUE}};
        for (int[] b : bad) {
            Check.due("bad convoy " + b[0] + " " + b[1], x.convoy(b[0], b[1]), ShipCut.BAD);
        }
        Check.due("starts at the minute about to begin", x.convoy(0, 0), ShipCut.NO);
        Check.due("first convoy", x.convoy(0, 1), 0);
        Check.due("last minute", x.convoy(1, 9999), 1);
        x.minutes(5);
        Check.due("starts now", x.convoy(0, 5), ShipCut.NO);
        Check.due("has started", x.convoy(0, 4), ShipCut.NO);
        for (int i = 2; i < 12; i++) {
            Check.due("convoy " + i, x.convoy(0, 6), i);
        }
        Check.due("13th convoy", x.convoy(0, 6), ShipCut.FULL);
        Check.due("no goes ahead of full", x.convoy(0, 5), ShipCut.NO);
        Check.due("bad goes ahead of full", x.convoy(2, 6), ShipCut.BAD);
        Check.due("12 convoys", x.count(1), 12);
    }

    private static void books() {
        ShipCut x = new ShipCut();
        Canal.ship(x, NORTH, 3);
        Canal.ship(x, SOUTH, 3);
        Canal.ship(x, NORTH, 4);
        Canal.ship(x, NORTH, 9);
        x.convoy(NORTH, 4);
        x.convoy(NORTH, 8);
        int[][] bad = {{-1, 0}, {2, 0}, {0, -1}, {0, 4}, {Integer.MAX_VALUE, 0}, {0, Integer.MIN_VALUE}};
        for (int[] b : bad) {
            Check.due("bad book " + b[0] + " " + b[1], x.book(b[0], b[1]), ShipCut.BAD);
        }
        Check.due("another way", x.book(0, 1), ShipCut.NO);
        Check.due("not booked by that", x.told(1, 8), ShipCut.NONE);
        Canal.until(x, 3);
        Check.due("starts next minute", x.book(0, 0), 1);
        Check.due("booked already", x.book(0, 0), ShipCut.NO);
        Check.due("booked elsewhere", x.book(1, 0), ShipCut.NO);
        Check.due("its convoy", x.told(0, 8), 0);
        Canal.until(x, 4);
        Check.due("the convoy starts now", x.book(0, 2), ShipCut.NO);
        Check.due("the ship's minute is about to begin", x.book(1, 2), 1);
        Check.due("a ship that comes behind the start", x.book(1, 3), 2);
        int unbooked = Canal.ship(x, NORTH, 4);
        Canal.until(x, 5);
        Check.due("the convoy has started", x.book(0, unbooked), ShipCut.NO);
        Check.due("the ship's minute is gone", x.book(1, unbooked), ShipCut.NO);
        Canal.until(x, 30);
        Check.due("one that is not booked stays away", x.told(unbooked, 0), -1);
        Check.due("and does not wait", x.waited(unbooked, -1), 0);
    }

    private static void booksInFull() {
        ShipCut x = new ShipCut();
        x.convoy(NORTH, 5);
        for (int i = 0; i < 8; i++) {
            Check.due("booked " + i, x.book(0, Canal.ship(x, NORTH, 0)), i + 1);
        }
        int ninth = Canal.ship(x, NORTH, 0);
        Check.due("ninth", x.book(0, ninth), ShipCut.FULL);
        Check.due("the ninth is not booked", x.told(ninth, 8), ShipCut.NONE);
        Check.due("no goes ahead of full", x.book(0, Canal.ship(x, SOUTH, 0)), ShipCut.NO);
        x.convoy(NORTH, 6);
        Check.due("another convoy takes it", x.book(1, ninth), 1);
    }

    private static void orderOfConvoys() {
        // Convoys that start in one minute come by their numbers, ships in the order of booking.
        ShipCut x = Canal.of("........", 20);
        for (int i = 0; i < 6; i++) {
            Canal.ship(x, NORTH, i == 5 ? 7 : 0);
        }
        x.convoy(NORTH, 7);
        x.convoy(NORTH, 3);
        x.convoy(NORTH, 7);
        x.book(2, 0);
        x.book(0, 4);
        x.book(0, 1);
        x.book(1, 3);
        x.book(1, 2);
        x.book(0, 5);
        Canal.until(x, 3);
        Check.due("nobody is in line ahead of a start", x.line(NORTH, 0), ShipCut.NONE);
        Canal.until(x, 4);
        Check.due("the first came in", x.told(3, 0), 0);
        Check.due("the second is in line", x.line(NORTH, 0), 2);
        Canal.until(x, 8);
        int[] want = {2, 4, 1, 5, 0, ShipCut.NONE};
        for (int i = 0; i < want.length; i++) {
            Check.due("line " + i, x.line(NORTH, i), want[i]);
        }
        Check.due("there at the very start is not late", x.told(5, 2), 0);
    }

    private static void lateByRuleOne() {
        ShipCut x = Canal.of("........", 60);
        x.rule(1, 1);
        x.rule(0, 60);
        Canal.convoyOf(x, NORTH, 1, 2);
        for (int i = 0; i < 3; i++) {
            x.book(0, Canal.ship(x, NORTH, 2));
        }
        x.convoy(NORTH, 2);
        x.book(1, Canal.ship(x, NORTH, 0));
        Canal.until(x, 2);
        Check.due("a minute ahead it is not late", x.told(2, 2), 0);
        Canal.until(x, 3);
        int[] want = {1, 5, 2, 3, 4, ShipCut.NONE};
        for (int i = 0; i < want.length; i++) {
            Check.due("late ones behind the convoy of that minute " + i, x.line(NORTH, i), want[i]);
        }
        Check.due("late", x.told(2, 2), 1);
        Check.due("not left", x.told(2, 3), 0);
        Check.due("still of its convoy", x.told(2, 8), 0);
        Check.due("three are late", x.count(5), 3);
        Check.due("waits from that minute on", x.waited(2, Canal.QUEUE), 1);
    }

    private static void lateByRuleZero() {
        // Ships 2 and 3 come too late for convoy 0: the next start above 5 is 9, of convoys 3 and 4.
        ShipCut x = Canal.of("........", 60);
        x.rule(0, 60);
        Canal.convoyOf(x, NORTH, 1, 2);
        x.book(0, Canal.ship(x, NORTH, 6));
        x.book(0, Canal.ship(x, NORTH, 5));
        x.book(0, Canal.ship(x, NORTH, 5));
        x.convoy(SOUTH, 6);
        x.convoy(NORTH, 20);
        x.convoy(NORTH, 9);
        x.convoy(NORTH, 9);
        x.convoy(NORTH, 5);
        x.book(3, Canal.ship(x, NORTH, 0));
        x.book(4, Canal.ship(x, NORTH, 0));
        x.book(5, Canal.ship(x, NORTH, 0));
        Canal.until(x, 6);
        Check.due("put off to the next start, the least number", x.told(3, 8), 3);
        Check.due("late", x.told(3, 2), 1);
        Check.due("not left", x.told(3, 3), 0);
        Check.due("not in line yet", x.line(NORTH, 2), ShipCut.NONE);
        Check.due("a put off one does not wait", x.waited(3, -1), 0);
        Check.due("a put off one is booked", x.book(4, 3), ShipCut.NO);
        Canal.until(x, 7);
        Check.due("the later one also", x.told(2, 8), 3);
        Check.due("put off ones take no booked place", x.book(3, Canal.ship(x, NORTH, 7)), 2);
        Canal.until(x, 10);
        int[] want = {1, 7, 5, 8, 3, 4, 2, 6, ShipCut.NONE};
        for (int i = 0; i < want.length; i++) {
            Check.due("put off ones last, in the order of putting off " + i, x.line(NORTH, i), want[i]);
        }
        Check.due("three are late", x.count(5), 3);
    }

    private static void leftForGood() {
        ShipCut x = Canal.of("........", 5);
        x.convoy(NORTH, 1);
        x.convoy(SOUTH, 9);
        x.book(0, Canal.ship(x, NORTH, 3));
        Canal.until(x, 4);
        Check.due("left", x.told(0, 3), 1);
        Check.due("and late", x.told(0, 2), 1);
        Check.due("still booked into its convoy", x.told(0, 8), 0);
        Check.due("count of left", x.count(4), 1);
        Check.due("a convoy told afterwards", x.convoy(NORTH, 6), 2);
        Check.due("does not take it", x.book(2, 0), ShipCut.NO);
        x.rule(1, 1);
        Canal.until(x, 20);
        Check.due("it stays left", x.told(0, 0), -1);
        Check.due("for good", x.told(0, 3), 1);
        Check.due("and waits for nothing", x.waited(0, -1), 0);
    }

    private static void lateOfBothWays() {
        // A start in the minute of lateness is not above it.
        ShipCut x = Canal.of("BBBBBBBB", 5);
        x.convoy(SOUTH, 1);
        x.convoy(SOUTH, 4);
        x.book(0, Canal.ship(x, SOUTH, 4));
        x.book(0, Canal.ship(x, SOUTH, 3));
        Canal.until(x, 5);
        Check.due("put off to the start behind", x.told(1, 8), 1);
        Check.due("and in at it", x.told(1, 4), 4);
        Check.due("the other one is left", x.told(0, 3), 1);
        Check.due("south begins at section 7", x.told(1, 0), 7);

        // The next start may be the last minute of all, and of a convoy with a lesser number.
        ShipCut y = Canal.of("BBBBBBBB", 5);
        y.convoy(SOUTH, 9999);
        y.convoy(SOUTH, 1);
        y.book(1, Canal.ship(y, SOUTH, 2));
        Canal.until(y, 3);
        Check.due("put off to the last minute", y.told(0, 8), 0);
        Check.due("and not left", y.told(0, 3), 0);
    }
}

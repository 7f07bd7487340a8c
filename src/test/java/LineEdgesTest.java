/** Part 2 of the terms, up to the lines: convoys that start, late ships, put off ones, left ones. */
public final class LineEdgesTest {
    private static final int NORTH = Canal.NORTH, SOUTH = Canal.SOUTH;

    public static void main(String[] args) {
        toldForThatMinute();
        eachOnce();
        emptyConvoys();
        byNumbers();
        thereByStart();
        behindTheLine();
        bookedThenPutOff();
        startedAheadOfLate();
        lateByNumbers();
        behindTheLineWhenLate();
        leastStartAbove();
        leastStartInAnyOrder();
        ofTheirWay();
        leastNumberOfSeveral();
        putOffBehindPutOff();
        putOffToFullConvoy();
        wholeFleetInLine();
        leftForGood();
        leftStaysLeft();
        startBehindTheMinute();
        ruleOfTheMinute();
        lateInTheLastMinute();
        Check.finish();
    }

    /** A canal whose first ship in the line of each way can never come in, so that its line stays whole. */
    private static ShipCut shut() {
        ShipCut x = Canal.of("........", 60);
        x.section(0, 60, 1, false);
        x.section(7, 60, 1, false);
        return x;
    }

    private static int deepShip(ShipCut x, int way, int minute) {
        return x.ship(way, minute, false, 45, false, 10);
    }

    private static void lineIs(String what, ShipCut x, int way, int... ships) {
        for (int i = 0; i < ships.length; i++) {
            Check.due(what + ", line " + i, x.line(way, i), ships[i]);
        }
        Check.due(what + ", end of the line", x.line(way, ships.length), ShipCut.NONE);
    }

    private static void toldForThatMinute() {
        Check.sentence("At the beginning of each MINUTE t (told ones of that MINUTE or an earlier one, each once)");
        ShipCut x = shut();
        Canal.until(x, 10);
        x.convoy(NORTH, 11);
        x.book(0, deepShip(x, NORTH, 10));
        x.book(0, deepShip(x, NORTH, 11));
        lineIs("told, but no minute has gone", x, NORTH);
        x.minutes(1);
        lineIs("its minute went, the start is yet to come", x, NORTH);
        x.minutes(1);
        lineIs("those of an earlier minute and of that one", x, NORTH, 0, 1);
    }

    private static void eachOnce() {
        ShipCut x = shut();
        x.convoy(NORTH, 2);
        x.convoy(NORTH, 6);
        x.book(0, deepShip(x, NORTH, 2));
        x.book(0, deepShip(x, NORTH, 4));
        Canal.until(x, 5);
        x.rule(1, 1);
        Canal.until(x, 20);
        lineIs("neither the one on time nor the put off one comes twice", x, NORTH, 0, 1);
        Check.due("on time is not late", x.told(0, 2), 0);
        ShipCut y = shut();
        y.rule(1, 1);
        y.convoy(NORTH, 2);
        y.convoy(NORTH, 6);
        y.book(0, deepShip(y, NORTH, 4));
        Canal.until(y, 5);
        y.rule(1, 0);
        Canal.until(y, 20);
        lineIs("nor a late one that stands in the line", y, NORTH, 0);
    }

    private static void emptyConvoys() {
        Check.sentence("for CONVOYS by numbers that START at t: its SHIPS that are there by t");
        ShipCut x = shut();
        x.convoy(NORTH, 1);
        x.convoy(SOUTH, 1);
        Check.due("a minute with convoys of no ships", x.minutes(2), 2);
        lineIs("no ship booked", x, NORTH);
        lineIs("no ship booked", x, SOUTH);
        Check.due("no ship in sections", x.count(6), 0);
        ShipCut y = shut();
        y.convoy(NORTH, 3);
        y.book(0, deepShip(y, NORTH, 9));
        Canal.until(y, 5);
        lineIs("no booked ship is there", y, NORTH);
        Check.due("it is not late as long as it is not there", y.told(0, 2), 0);
    }

    private static void byNumbers() {
        ShipCut x = shut();
        for (int c = 0; c < 3; c++) {
            x.convoy(NORTH, 5);
            deepShip(x, NORTH, 0);
        }
        x.book(2, 0);
        x.book(1, 1);
        x.book(0, 2);
        Canal.until(x, 5);
        lineIs("ahead of the start", x, NORTH);
        x.minutes(1);
        lineIs("three that start at once", x, NORTH, 2, 1, 0);
    }

    private static void thereByStart() {
        ShipCut x = shut();
        x.convoy(NORTH, 5);
        for (int minute = 4; minute <= 6; minute++) {
            x.book(0, deepShip(x, NORTH, minute));
        }
        x.convoy(NORTH, 9);
        Canal.until(x, 6);
        lineIs("a minute ahead of the start and in its minute", x, NORTH, 0, 1);
        Check.due("none is late", x.count(5), 0);
        x.minutes(1);
        lineIs("the one a minute behind is not there by then", x, NORTH, 0, 1);
        Check.due("it is late", x.told(2, 2), 1);
    }

    private static void behindTheLine() {
        Check.sentence("come behind the LINE, in order, put off ones last");
        ShipCut x = shut();
        x.convoy(NORTH, 2);
        x.convoy(NORTH, 1);
        deepShip(x, NORTH, 0);
        deepShip(x, NORTH, 0);
        x.book(0, 0);
        x.book(1, 1);
        Canal.until(x, 3);
        lineIs("who started later stands behind", x, NORTH, 1, 0);
    }

    private static void bookedThenPutOff() {
        ShipCut x = shut();
        x.convoy(NORTH, 1);
        x.convoy(NORTH, 6);
        x.book(0, deepShip(x, NORTH, 2));
        Canal.until(x, 4);
        Check.due("put off first", x.told(0, 8), 1);
        x.book(1, deepShip(x, NORTH, 5));
        Canal.until(x, 7);
        lineIs("booked afterwards, yet ahead of the put off one", x, NORTH, 1, 0);
    }

    private static void startedAheadOfLate() {
        Check.sentence("SHIPS by numbers that are there at t, BOOKED into a CONVOY that STARTED ahead of t, are LATE");
        for (int minute = 3; minute <= 5; minute++) {
            ShipCut x = shut();
            x.convoy(NORTH, 4);
            x.book(0, deepShip(x, NORTH, minute));
            Canal.until(x, minute);
            Check.due("ahead of its minute " + minute, x.told(0, 2), 0);
            Canal.until(x, 9);
            Check.due("there at " + minute + " for a start at 4", x.told(0, 2), minute > 4 ? 1 : 0);
            Check.due("how many: " + minute, x.count(5), minute > 4 ? 1 : 0);
        }
        ShipCut y = shut();
        y.convoy(NORTH, 4);
        deepShip(y, NORTH, 5);
        Canal.until(y, 9);
        Check.due("one that is not booked is never late", y.told(0, 2), 0);
    }

    private static void lateByNumbers() {
        ShipCut x = shut();
        x.rule(1, 1);
        x.convoy(NORTH, 2);
        x.convoy(NORTH, 1);
        for (int i = 0; i < 3; i++) {
            deepShip(x, NORTH, 4);
        }
        x.book(0, 2);
        x.book(0, 1);
        x.book(1, 0);
        Canal.until(x, 5);
        lineIs("by numbers of ships, not by booking nor by convoys", x, NORTH, 0, 1, 2);
        ShipCut y = shut();
        y.rule(1, 1);
        y.convoy(NORTH, 1);
        y.book(0, deepShip(y, NORTH, 5));
        y.book(0, deepShip(y, NORTH, 4));
        Canal.until(y, 6);
        lineIs("who came a minute earlier stands ahead", y, NORTH, 1, 0);
    }

    private static void behindTheLineWhenLate() {
        Check.sentence("by RULE 1 they come behind the LINE");
        ShipCut x = shut();
        x.rule(1, 1);
        x.convoy(NORTH, 1);
        x.convoy(NORTH, 3);
        x.book(0, deepShip(x, NORTH, 3));
        x.book(1, deepShip(x, NORTH, 3));
        x.convoy(NORTH, 9);
        Canal.until(x, 4);
        lineIs("behind those who start in that minute", x, NORTH, 1, 0);
        Check.due("not put off though a convoy is to come", x.told(0, 8), 0);
        ShipCut y = Canal.of("BBBBBBBB", 5);
        y.rule(1, 1);
        y.convoy(SOUTH, 1);
        y.book(0, Canal.ship(y, SOUTH, 2));
        Canal.until(y, 3);
        Check.due("an empty line: it comes in at once", y.told(0, 4), 2);
        Check.due("and is not left, without a convoy to come", y.told(0, 3), 0);
    }

    private static void leastStartAbove() {
        Check.sentence("by RULE 0 they are put off to the CONVOY of their WAY with the least START above t");
        ShipCut x = shut();
        x.convoy(NORTH, 1);
        x.convoy(NORTH, 9999);
        x.convoy(NORTH, 7);
        x.convoy(NORTH, 5);
        x.convoy(NORTH, 6);
        x.convoy(SOUTH, 6);
        x.book(0, deepShip(x, NORTH, 5));
        x.book(0, deepShip(x, NORTH, 6));
        x.book(0, deepShip(x, NORTH, 7));
        x.book(0, deepShip(x, NORTH, 9998));
        Canal.until(x, 8);
        Check.due("a start in that minute is not above it, the next one is", x.told(0, 8), 4);
        Check.due("a minute later", x.told(1, 8), 2);
        Check.due("only the last minute is left", x.told(2, 8), 1);
        Check.due("and it was taken", x.told(2, 3), 0);
        lineIs("each in its own start", x, NORTH, 0, 1);
        Canal.until(x, 9999);
        Check.due("put off by a single minute", x.told(3, 8), 1);
        x.minutes(1);
        lineIs("in the last minute too", x, NORTH, 0, 1, 2, 3);
    }

    private static void leastStartInAnyOrder() {
        int[][] orders = {{6, 7, 8}, {6, 8, 7}, {7, 6, 8}, {7, 8, 6}, {8, 6, 7}, {8, 7, 6}};
        for (int way = 0; way < 2; way++) {
            for (int[] starts : orders) {
                ShipCut x = shut();
                x.book(x.convoy(way, 1), deepShip(x, way, 3));
                int least = 0;
                for (int k = 0; k < 3; k++) {
                    int convoy = x.convoy(way, starts[k]);
                    least = starts[k] == 6 ? convoy : least;
                }
                Canal.until(x, 6);
                String order = "way " + way + ", starts " + java.util.Arrays.toString(starts);
                Check.due(order, x.told(0, 8), least);
                lineIs(order + ", not yet", x, way);
                x.minutes(1);
                lineIs(order + ", at the least of them", x, way, 0);
            }
        }
    }

    private static void ofTheirWay() {
        for (int way = 0; way < 2; way++) {
            ShipCut x = shut();
            x.convoy(1 - way, 5);
            x.book(x.convoy(way, 1), deepShip(x, way, 3));
            x.convoy(way, 7);
            x.convoy(1 - way, 6);
            x.convoy(1 - way, 7);
            Canal.until(x, 7);
            Check.due("way " + way + ", though others start earlier", x.told(0, 8), 2);
            lineIs("way " + way + ", others have started", x, way);
            x.minutes(1);
            lineIs("way " + way + ", its own has", x, way, 0);
            ShipCut y = shut();
            y.book(y.convoy(way, 1), deepShip(y, way, 3));
            y.convoy(1 - way, 6);
            Canal.until(y, 8);
            Check.due("way " + way + ", left, with one of the other way to come", y.told(0, 3), 1);
            lineIs("way " + way + ", in no line", y, 0);
            lineIs("way " + way + ", in no line", y, 1);
        }
    }

    private static void leastNumberOfSeveral() {
        Check.sentence("(of several the least number)");
        ShipCut x = shut();
        x.convoy(NORTH, 8);
        x.convoy(SOUTH, 6);
        x.convoy(NORTH, 6);
        x.convoy(NORTH, 1);
        x.convoy(NORTH, 6);
        x.book(3, deepShip(x, NORTH, 3));
        Canal.until(x, 4);
        Check.due("two start at 6", x.told(0, 8), 2);
    }

    private static void putOffBehindPutOff() {
        Check.sentence("behind those that were put off to it ahead");
        ShipCut x = shut();
        x.convoy(NORTH, 1);
        x.convoy(NORTH, 9);
        x.book(0, deepShip(x, NORTH, 5));
        x.book(0, deepShip(x, NORTH, 3));
        x.book(0, deepShip(x, NORTH, 5));
        x.book(0, deepShip(x, NORTH, 4));
        Canal.until(x, 9);
        lineIs("none of them in the line yet", x, NORTH);
        x.minutes(1);
        lineIs("in the order of putting off", x, NORTH, 1, 3, 0, 2);
    }

    private static void putOffToFullConvoy() {
        Check.sentence("SHIPS are BOOKED into it, in order, 8 at most");
        ShipCut x = shut();
        x.convoy(NORTH, 1);
        x.book(0, deepShip(x, NORTH, 2));
        x.convoy(NORTH, 9);
        for (int i = 0; i < 7; i++) {
            x.book(1, deepShip(x, NORTH, 0));
        }
        Canal.until(x, 5);
        Check.due("put off to one with seven", x.told(0, 8), 1);
        Check.due("the eighth is booked all the same", x.book(1, deepShip(x, NORTH, 6)), 8);
        Check.due("no ninth", x.book(1, deepShip(x, NORTH, 6)), ShipCut.FULL);
        Canal.until(x, 10);
        lineIs("eight and one", x, NORTH, 1, 2, 3, 4, 5, 6, 7, 8, 0);
        ShipCut y = shut();
        Canal.convoyOf(y, NORTH, 9, 8);
        y.convoy(NORTH, 1);
        y.book(1, deepShip(y, NORTH, 2));
        Canal.until(y, 5);
        Check.due("put off to one with eight", y.told(8, 8), 0);
        Check.due("and not left", y.told(8, 3), 0);
    }

    private static void wholeFleetInLine() {
        Check.sentence("A LINE for each WAY: SHIPS that are to come in, in order.");
        for (int way = 0; way < 2; way++) {
            wholeFleetInLine(way);
        }
    }

    /** 22 late ones are put off to a convoy of eight: all ships there can be are in one line. */
    private static void wholeFleetInLine(int way) {
        ShipCut x = shut();
        int last = x.convoy(way, 20);
        for (int i = 0; i < 8; i++) {
            x.book(last, deepShip(x, way, 0));
        }
        for (int i = 8; i < 30; i++) {
            if (i % 8 == 0) {
                x.convoy(way, i / 8);
            }
            x.book(i / 8, deepShip(x, way, 10));
        }
        Canal.until(x, 21);
        Check.due("22 are late of way " + way, x.count(5), 22);
        Check.due("none is left of way " + way, x.count(4), 0);
        for (int i = 0; i < 30; i++) {
            Check.due("the line of way " + way + ", " + i, x.line(way, i), i);
        }
        Check.due("behind the last one of way " + way, x.line(way, 30), ShipCut.NONE);
        Check.due("the last one of way " + way + " waits in the queue", x.waited(29, Canal.QUEUE), 1);
    }

    private static void leftForGood() {
        Check.sentence("is there none they are LEFT, for good");
        ShipCut x = shut();
        x.convoy(NORTH, 1);
        x.convoy(NORTH, 5);
        x.convoy(SOUTH, 9);
        x.book(0, deepShip(x, NORTH, 5));
        x.book(0, deepShip(x, NORTH, 4));
        Canal.until(x, 5);
        Check.due("not left ahead of its minute", x.told(0, 3), 0);
        x.minutes(1);
        Check.due("no start above 5 of its way", x.told(0, 3), 1);
        Check.due("it is late as well", x.told(0, 2), 1);
        Check.due("5 is above 4", x.told(1, 3), 0);
        Check.due("how many are left", x.count(4), 1);
        lineIs("the left one is in no line", x, NORTH, 1);
        Canal.until(x, 300);
        lineIs("nor is it later", x, NORTH, 1);
        Check.due("for good", x.told(0, 3), 1);
        Check.due("it waits by nothing", x.waited(0, -1), 0);
    }

    private static void leftStaysLeft() {
        Check.sentence("What is told afterwards of CONVOYS moves no one who is LEFT");
        ShipCut x = shut();
        x.convoy(NORTH, 1);
        x.book(0, deepShip(x, NORTH, 3));
        Canal.until(x, 4);
        Check.due("left", x.told(0, 3), 1);
        Check.due("a convoy told afterwards", x.convoy(NORTH, 5), 1);
        Check.due("it can't be booked into it", x.book(1, 0), ShipCut.NO);
        x.rule(1, 1);
        Canal.until(x, 9);
        lineIs("it is not moved", x, NORTH);
        Check.due("still left", x.told(0, 3), 1);
        Check.due("not put off to it", x.told(0, 8), 0);
    }

    private static void startBehindTheMinute() {
        Check.sentence("a CONVOY that is told must START behind the MINUTE that is about to begin");
        for (int now : new int[] {0, 1, 77, 9998}) {
            Refused.Lead lead = x -> Canal.until(x, now);
            Refused.due("a start at " + now, lead, x -> x.convoy(SOUTH, now), ShipCut.NO);
            if (now > 0) {
                Refused.due("a start ahead of " + now, lead, x -> x.convoy(SOUTH, now - 1), ShipCut.NO);
            }
            ShipCut x = new ShipCut();
            lead.on(x);
            Check.due("a start a minute behind " + now, x.convoy(SOUTH, now + 1), 0);
        }
    }

    private static void ruleOfTheMinute() {
        Check.sentence("late ones as the rule says");
        for (int rule = 0; rule < 2; rule++) {
            ShipCut x = shut();
            x.rule(1, 1 - rule);
            x.convoy(NORTH, 1);
            x.book(0, deepShip(x, NORTH, 5));
            Canal.until(x, 5);
            x.rule(1, rule);
            x.minutes(1);
            Check.due("the rule of its minute, not of its booking: left by " + rule, x.told(0, 3), 1 - rule);
            Check.due("the line by " + rule, x.line(NORTH, 0), rule == 1 ? 0 : ShipCut.NONE);
        }
    }

    private static void lateInTheLastMinute() {
        Check.sentence("BOOKED ones not there at its START are LATE when they come");
        for (int rule = 0; rule < 2; rule++) {
            ShipCut x = Canal.of("BBBBBBBB", 5);
            x.rule(1, rule);
            x.convoy(NORTH, 9998);
            x.convoy(NORTH, 9999);
            x.book(0, Canal.ship(x, NORTH, 9999));
            Canal.until(x, 10000);
            Check.due("late in the last minute", x.told(0, 2), 1);
            Check.due("no start is above it: left by rule " + rule, x.told(0, 3), 1 - rule);
            Check.due("came in by rule " + rule, x.told(0, 4), rule == 1 ? 9999 : ShipCut.NONE);
        }
    }
}

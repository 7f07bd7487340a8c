/** Part 2 of the terms, from the sections on: going on, coming in, each cause at its edge, aground. */
public final class MinuteEdgesTest {
    private static final int NORTH = Canal.NORTH, SOUTH = Canal.SOUTH;
    private static final int FOREVER = 500;

    public static void main(String[] args) {
        emptyCanal();
        minutesToGo();
        noneAhead();
        otherWayAhead();
        outAtTheEnd();
        firstOfEachLine();
        northAheadOfSouth();
        nobodyWaits();
        grounded();
        oncoming();
        crowded();
        crowdedByItsWay();
        gap();
        gapWithinTheCanal();
        gapByItsWay();
        tide();
        wind();
        groundedGoesFirst();
        oncomingGoesNext();
        crowdedGoesNext();
        gapAndTideGoNext();
        queueInLine();
        queueInSection();
        agroundStandsStill();
        thoseBehindOneAground();
        thoseNotBehindOneAground();
        agroundForSoMany();
        Check.finish();
    }

    private static int book(ShipCut x, int way, int start, int ship) {
        x.book(x.convoy(way, start), ship);
        return ship;
    }

    /** One cause has so many minutes, and no other has any. */
    private static void waitedOnlyBy(String what, ShipCut x, int ship, int cause, int minutes) {
        for (int c = 0; c < 7; c++) {
            Check.due(what + ", waited by " + c, x.waited(ship, c), c == cause ? minutes : 0);
        }
    }

    private static void emptyCanal() {
        Check.sentence("Then the MINUTE is over");
        ShipCut x = new ShipCut();
        Check.due("a minute without a ship", x.minutes(1), 1);
        Check.due("300 without a ship", x.minutes(300), 301);
        for (int what = 3; what < 8; what++) {
            Check.due("count " + what, x.count(what), 0);
        }
    }

    private static void minutesToGo() {
        Check.sentence("one has a MINUTE less to go, if it has any left");
        ShipCut x = Canal.of("BBBBBBBB", 3);
        x.section(1, 3, 5, true);
        book(x, NORTH, 1, x.ship(NORTH, 0, false, 6, false, 1));
        int[] toGo = {0, 0, 3, 2, 1, 0, 0, 0};
        for (int now = 0; now < toGo.length; now++) {
            Canal.until(x, now);
            Check.due("to go when " + now + " is about to begin", x.told(0, 1), toGo[now]);
        }
        Canal.until(x, 300);
        Check.due("never less than none", x.told(0, 1), 0);
        waitedOnlyBy("each minute without any left", x, 0, Canal.TIDE, 296);
    }

    private static void noneAhead() {
        Check.sentence("if then it has none, and none of its WAY is ahead of it in the SECTION, it goes on to the next SECTION");
        ShipCut x = Canal.of("BBBBBBBB", 10);
        x.rule(0, 0);
        int convoy = x.convoy(NORTH, 1);
        x.book(convoy, x.ship(NORTH, 0, false, 1, true, 1));
        x.book(convoy, Canal.ship(x, NORTH, 0));
        Canal.until(x, 12);
        Check.due("a minute is left to the second", x.told(1, 1), 1);
        Canal.until(x, 13);
        Check.due("none is left to it", x.told(1, 1), 0);
        Check.due("yet one is ahead", x.told(1, 0), 0);
        Canal.until(x, 21);
        Check.due("a minute is left to the one ahead", x.told(0, 1), 1);
        Check.due("that long it is ahead", x.told(1, 0), 0);
        x.minutes(1);
        Check.due("the one ahead goes on in the minute in which it has none", x.told(0, 0), 1);
        Check.due("none is ahead then", x.told(1, 0), 1);
        Check.due("the order in the next one", x.in(1, NORTH, 0), 0);
        Check.due("with all its minutes to go", x.told(1, 1), 10);
    }

    private static void otherWayAhead() {
        ShipCut x = Canal.of("BBBBBBBB", 10);
        book(x, SOUTH, 1, x.ship(SOUTH, 0, false, 1, true, 1));
        Canal.until(x, 145);
        Check.due("a slow one of the other way", x.told(0, 0), 0);
        book(x, NORTH, 146, Canal.ship(x, NORTH, 145));
        Canal.until(x, 156);
        Check.due("both are there", x.in(0, NORTH, 0), 1);
        Check.due("both are there", x.in(0, SOUTH, 0), 0);
        x.minutes(1);
        Check.due("the other way is never ahead of it", x.told(1, 0), 1);
        Check.due("no minute waited", x.waited(1, -1), 0);
    }

    private static void outAtTheEnd() {
        Check.sentence("or out at the end (OUT)");
        for (int way = 0; way < 2; way++) {
            ShipCut x = Canal.of("........", 1);
            x.rule(0, 60);
            book(x, way, 1, x.ship(way, 0, true, 1, false, 1));
            Canal.until(x, 9);
            Check.due("in its last section, way " + way, x.told(0, 0), way == NORTH ? 7 : 0);
            Check.due("not out yet, way " + way, x.told(0, 5), ShipCut.NONE);
            // Neither depth nor wind nor gap is asked for beyond the end.
            x.wind(0, -1);
            x.minutes(1);
            Check.due("out, way " + way, x.told(0, 0), 8);
            Check.due("out at, way " + way, x.told(0, 5), 9);
            Check.due("how many are out, way " + way, x.count(3), 1);
            Check.due("none in sections, way " + way, x.count(6), 0);
            x.minutes(50);
            Check.due("out once, way " + way, x.told(0, 5), 9);
            Check.due("it never waits, way " + way, x.waited(0, -1), 0);
        }
    }

    private static void firstOfEachLine() {
        Check.sentence("Then the first of each LINE, WAY 0, WAY 1, comes into its first SECTION");
        ShipCut x = Canal.of("BBBBBBBB", 30);
        x.rule(0, 0);
        Canal.convoyOf(x, NORTH, 1, 2);
        Canal.convoyOf(x, SOUTH, 1, 2);
        Canal.until(x, 2);
        Check.due("one of north", x.in(0, NORTH, 0), 0);
        Check.due("no more than one of north", x.in(0, NORTH, 1), ShipCut.NONE);
        Check.due("one of south", x.in(7, SOUTH, 0), 2);
        Check.due("no more than one of south", x.in(7, SOUTH, 1), ShipCut.NONE);
        x.minutes(1);
        Check.due("the next of north", x.in(0, NORTH, 1), 1);
        Check.due("the next of south", x.in(7, SOUTH, 1), 3);
        Check.due("an empty line", x.line(NORTH, 0), ShipCut.NONE);
        x.minutes(1);
        Check.due("nothing comes of an empty line", x.count(6), 4);
    }

    private static void northAheadOfSouth() {
        ShipCut x = Canal.of("........", 5);
        Canal.convoyOf(x, SOUTH, 1, 1);
        Canal.convoyOf(x, NORTH, 1, 1);
        Canal.until(x, 2);
        Check.due("north comes in first", x.told(1, 0), 0);
        waitedOnlyBy("so that south meets it", x, 0, Canal.ONCOMING, 1);
        Check.sentence("WAY 0 from SECTION 7 to 0, then WAY 1 from 0 to 7");
        // Both stand on the two sides of section 4 and may take it in the same minute.
        ShipCut y = Canal.of("BBBB.BBB", 4);
        y.section(4, 4, 40, false);
        Canal.convoyOf(y, SOUTH, 5, 1);
        Canal.convoyOf(y, NORTH, 1, 1);
        Canal.until(y, 17);
        Check.due("north has none left in 3", y.told(1, 0), 3);
        Check.due("south has none left in 5", y.told(0, 0), 5);
        y.minutes(1);
        Check.due("north moves first", y.told(1, 0), 4);
        waitedOnlyBy("so that south has to wait", y, 0, Canal.ONCOMING, 1);
    }

    private static void nobodyWaits() {
        Check.sentence("Whoever may not go on, come in, waits that MINUTE");
        ShipCut x = Canal.of("........", 7);
        book(x, SOUTH, 4, Canal.ship(x, SOUTH, 0));
        book(x, NORTH, 100, Canal.ship(x, NORTH, 0));
        Canal.until(x, 200);
        Check.due("south is out without waiting", x.told(0, 5), 4 + 56);
        Check.due("north is out without waiting", x.told(1, 5), 100 + 56);
        for (int ship = 0; ship < 2; ship++) {
            Check.due("neither for its convoy nor under way", x.waited(ship, -1), 0);
        }
    }

    private static void grounded() {
        Check.sentence("0 GROUNDED: a SHIP is aground in the SECTION to come");
        for (int way = 0; way < 2; way++) {
            for (int n = 1; n <= 3; n++) {
                ShipCut x = Canal.of("BBBBBBBB", 4);
                x.rule(0, 0);
                book(x, way, 1, Canal.ship(x, way, 0));
                book(x, way, 3, Canal.ship(x, way, 0));
                Canal.until(x, 5);
                // Then the second has two minutes to go in the section behind it.
                x.minutes(1);
                Check.due("the one ahead is in the second section", x.told(0, 0), way == NORTH ? 1 : 6);
                Check.due("to go", x.told(1, 1), 2);
                x.ground(0, n);
                Canal.until(x, 10);
                // It would go on in minute 7: the minutes aground are 6 to 5 + n.
                waitedOnlyBy("way " + way + ", aground for " + n, x, 1, Canal.GROUNDED, n - 1);
                Check.due("way " + way + ", then gone on", x.told(1, 0), way == NORTH ? 1 : 6);
            }
        }
    }

    private static void oncoming() {
        Check.sentence("1 ONCOMING: it is no BYPASS, and in its CHAIN is one of the other WAY");
        ShipCut x = Canal.of(".......B", 2);
        Canal.convoyOf(x, NORTH, 1, 1);
        Canal.convoyOf(x, SOUTH, 1, 1);
        Canal.until(x, 15);
        Check.due("north is at the far end of the chain", x.told(0, 0), 6);
        Check.due("south is in the bypass beside it", x.told(1, 0), 7);
        x.minutes(1);
        Check.due("north goes on into the bypass with south in it", x.told(0, 0), 7);
        Check.due("the chain is free, south goes on in the same minute", x.told(1, 0), 6);
        waitedOnlyBy("south waited from 3 to 14", x, 1, Canal.ONCOMING, 12);
        Check.due("north did not wait", x.waited(0, -1), 0);
    }

    private static void crowded() {
        Check.sentence("2 CROWDED: in it are 3 of its WAY");
        for (int way = 0; way < 2; way++) {
            ShipCut x = Canal.of("BBBBBBBB", 60);
            x.rule(0, 0);
            Canal.convoyOf(x, way, 1, 4);
            int first = way == NORTH ? 0 : 7;
            Canal.until(x, 3);
            Check.due("two are in", x.in(first, way, 1), 1);
            x.minutes(1);
            Check.due("a third may come", x.in(first, way, 2), 2);
            Canal.until(x, 61);
            Check.due("no fourth", x.in(first, way, 3), ShipCut.NONE);
            Check.due("it waits by that", x.waited(3, Canal.CROWDED), 57);
            Check.due("and did by the queue", x.waited(3, Canal.QUEUE), 3);
            x.minutes(1);
            Check.due("the first left it in that minute", x.in(first, way, 0), 1);
            Check.due("so that two were in it, and a third came", x.told(3, 4), 61);
        }
    }

    private static void crowdedByItsWay() {
        ShipCut x = Canal.of("BBBBBBBB", 1);
        x.section(7, 60, 40, true);
        x.rule(0, 0);
        Canal.convoyOf(x, NORTH, 1, 3);
        Canal.until(x, 20);
        Check.due("three of north are in 7", x.in(7, NORTH, 2), 2);
        book(x, SOUTH, 21, Canal.ship(x, SOUTH, 20));
        Canal.until(x, 22);
        Check.due("three of the other way are no crowd", x.told(3, 4), 21);
        Check.due("south is in 7", x.in(7, SOUTH, 0), 3);
    }

    private static void gap() {
        Check.sentence("3 GAP: one of its WAY came into it less than GAP MINUTES ago");
        for (int way = 0; way < 2; way++) {
            for (int gap : new int[] {0, 1, 2, 3, 5, 59, 60}) {
                ShipCut x = Canal.of("BBBBBBBB", 60);
                x.rule(0, gap);
                Canal.convoyOf(x, way, 1, 2);
                Canal.until(x, 80);
                int came = 1 + Math.max(gap, 1);
                Check.due("way " + way + ", gap " + gap + ": the second came in", x.told(1, 4), came);
                Check.due("way " + way + ", gap " + gap + ": waited by it", x.waited(1, Canal.GAP), Math.max(gap - 1, 0));
            }
        }
    }

    private static void gapWithinTheCanal() {
        // Two that may go on in the same minute: only a gap of 0 lets both do it.
        for (int gap : new int[] {0, 1, 2, 60}) {
            ShipCut x = Canal.of("BBBBBBBB", 20);
            x.rule(0, 0);
            int convoy = x.convoy(NORTH, 1);
            x.book(convoy, x.ship(NORTH, 0, false, 1, true, 1));
            x.book(convoy, Canal.ship(x, NORTH, 0));
            Canal.until(x, 41);
            x.rule(0, gap);
            x.minutes(1);
            Check.due("gap " + gap + ": the first goes on", x.told(0, 0), 1);
            Check.due("gap " + gap + ": the second goes on with it", x.told(1, 0), gap == 0 ? 1 : 0);
            Canal.until(x, 41 + gap);
            Check.due("gap " + gap + ": not ahead of its time", x.told(1, 0), gap == 0 ? 1 : 0);
            x.minutes(1);
            Check.due("gap " + gap + ": in its time", x.told(1, 0), 1);
            Check.due("gap " + gap + ": waited by it", x.waited(1, Canal.GAP), gap);
        }
        // No one ever came in: the longest gap bars nobody in the first minute that there can be.
        ShipCut y = Canal.of("BBBBBBBB", 1);
        y.rule(0, 60);
        Canal.convoyOf(y, NORTH, 1, 1);
        Canal.until(y, 10);
        Check.due("through a canal that none came into", y.told(0, 5), 9);
    }

    private static void gapByItsWay() {
        ShipCut x = Canal.of("BBBBBBBB", 1);
        x.rule(0, 60);
        Canal.convoyOf(x, NORTH, 1, 2);
        Canal.convoyOf(x, SOUTH, 9, 1);
        Canal.until(x, 18);
        Check.due("the other way came into each of them just now", x.told(2, 5), 17);
        Canal.until(x, 61);
        Check.due("one of its way need not be there any more", x.told(1, 0), -1);
        x.minutes(1);
        Check.due("60 minutes behind it", x.told(1, 4), 61);
    }

    private static void tide() {
        Check.sentence("4 TIDE: the DRAUGHT is above the DEPTH");
        for (int s = 0; s < 8; s++) {
            for (int draught = 19; draught <= 21; draught++) {
                ShipCut x = Canal.of("BBBBBBBB", 1);
                x.section(s, 1, 20, true);
                book(x, NORTH, 1, x.ship(NORTH, 0, false, draught, false, 1));
                Canal.until(x, 30);
                Check.due("draught " + draught + " on 20 in section " + s, x.told(0, 0), draught > 20 ? s - 1 : 8);
                waitedOnlyBy("draught " + draught, x, 0, Canal.TIDE, draught > 20 ? 29 - s : 0);
            }
        }
    }

    private static void wind() {
        Check.sentence("5 WIND: the SHIP is GREAT, it is no BYPASS, the HOUR's WIND is missing or above 6");
        for (int force = -1; force <= 12; force++) {
            boolean barred = force == -1 || force > 6;
            for (int kind = 0; kind < 4; kind++) {
                boolean great = (kind & 1) == 1, bypass = (kind & 2) == 2;
                ShipCut x = Canal.of("BBBBBBBB", 1);
                x.section(3, 1, 40, bypass);
                x.wind(0, force);
                book(x, SOUTH, 1, x.ship(SOUTH, 0, great, 1, false, 1));
                Canal.until(x, 30);
                boolean kept = barred && great && !bypass;
                Check.due("wind " + force + ", great " + great + ", bypass " + bypass, x.told(0, 0), kept ? 4 : 8);
                waitedOnlyBy("wind " + force, x, 0, Canal.WIND, kept ? 25 : 0);
            }
        }
    }

    private static void groundedGoesFirst() {
        Check.sentence("waits that MINUTE, by the first CAUSE");
        // Aground in section 7, no bypass, seen from the south line: oncoming, tide and wind hold too.
        ShipCut x = Canal.of("BBBBBBB.", 1);
        x.section(7, 60, 5, false);
        x.wind(0, 12);
        Canal.convoyOf(x, NORTH, 1, 1);
        Canal.until(x, 10);
        Check.due("north is in 7", x.told(0, 0), 7);
        book(x, SOUTH, 11, x.ship(SOUTH, 10, true, 45, false, 1));
        x.ground(0, 20);
        Canal.until(x, 30);
        waitedOnlyBy("grounded goes ahead of oncoming, tide and wind", x, 1, Canal.GROUNDED, 19);
        Canal.until(x, 40);
        Check.due("then oncoming", x.waited(1, Canal.ONCOMING), 10);

        // Three in section 0 with the last one just come, one of them aground: crowded and gap hold too.
        ShipCut y = Canal.of("BBBBBBBB", 60);
        y.rule(0, 1);
        Canal.convoyOf(y, NORTH, 1, 4);
        Canal.until(y, 4);
        y.rule(0, 60);
        y.ground(0, 10);
        Canal.until(y, 14);
        Check.due("grounded goes ahead of crowded and gap", y.waited(3, Canal.GROUNDED), 10);
        Check.due("not crowded", y.waited(3, Canal.CROWDED), 0);
        Check.due("no gap", y.waited(3, Canal.GAP), 0);
        y.minutes(1);
        Check.due("then crowded", y.waited(3, Canal.CROWDED), 1);
    }

    private static void oncomingGoesNext() {
        // North left section 0 into the bypass and south took it: the gap, tide and wind hold too.
        ShipCut x = Canal.of(".BBBBBBB", 2);
        x.section(0, 9, 5, false);
        x.wind(0, 12);
        x.rule(0, 60);
        Canal.convoyOf(x, NORTH, 1, 1);
        Canal.convoyOf(x, SOUTH, 1, 1);
        Canal.until(x, 15);
        Check.due("north came in and left it", x.told(0, 0), 3);
        x.minutes(1);
        Check.due("south is in it", x.told(1, 0), 0);
        book(x, NORTH, 17, x.ship(NORTH, 16, true, 45, false, 1));
        Canal.until(x, 24);
        waitedOnlyBy("oncoming goes ahead of gap, tide and wind", x, 2, Canal.ONCOMING, 7);
        Canal.until(x, 30);
        Check.due("then the gap", x.waited(2, Canal.GAP), 6);
    }

    private static void crowdedGoesNext() {
        ShipCut x = Canal.of("........", 30);
        x.section(0, 30, 5, false);
        x.rule(0, 1);
        x.wind(0, 12);
        Canal.convoyOf(x, NORTH, 1, 3);
        Canal.until(x, 4);
        x.rule(0, 60);
        book(x, NORTH, 5, x.ship(NORTH, 4, true, 45, false, 1));
        Canal.until(x, 31);
        waitedOnlyBy("crowded goes ahead of gap, tide and wind", x, 3, Canal.CROWDED, 26);
        x.minutes(1);
        Check.due("then the gap", x.waited(3, Canal.GAP), 1);
    }

    private static void gapAndTideGoNext() {
        ShipCut x = Canal.of("........", 60);
        x.section(0, 60, 5, false);
        x.wind(0, 12);
        Canal.convoyOf(x, NORTH, 1, 1);
        Canal.until(x, 2);
        book(x, NORTH, 3, x.ship(NORTH, 2, true, 6, false, 1));
        Canal.until(x, 6);
        waitedOnlyBy("gap goes ahead of tide and wind", x, 1, Canal.GAP, 3);
        Canal.until(x, 9);
        Check.due("tide goes ahead of wind", x.waited(1, Canal.TIDE), 3);
        Check.due("no wind yet", x.waited(1, Canal.WIND), 0);
        x.tide(0, 1);
        Canal.until(x, 12);
        Check.due("wind is the last", x.waited(1, Canal.WIND), 3);
        x.wind(0, 6);
        x.minutes(1);
        Check.due("when no cause is left it comes in", x.told(1, 4), 12);
        Check.due("one cause for each minute", x.waited(1, -1), 9);
    }

    private static void queueInLine() {
        Check.sentence("(Others in a LINE, those behind one in a SECTION wait by 6 QUEUE.)");
        ShipCut x = Canal.of("........", 60);
        x.rule(0, 0);
        Canal.convoyOf(x, NORTH, 1, 3);
        Canal.until(x, 1);
        Check.due("ahead of the start no one waits", x.waited(2, -1), 0);
        x.minutes(1);
        Check.due("the first comes in", x.waited(0, -1), 0);
        waitedOnlyBy("the second, though it is the first then", x, 1, Canal.QUEUE, 1);
        waitedOnlyBy("the third", x, 2, Canal.QUEUE, 1);
        x.minutes(1);
        waitedOnlyBy("in its turn no more", x, 1, Canal.QUEUE, 1);
        waitedOnlyBy("the third again", x, 2, Canal.QUEUE, 2);
    }

    private static void queueInSection() {
        // The first can't go on for want of depth; the others come up behind it.
        ShipCut x = Canal.of("BBBBBBBB", 10);
        x.section(1, 10, 5, true);
        x.rule(0, 1);
        int convoy = x.convoy(NORTH, 1);
        x.book(convoy, x.ship(NORTH, 0, false, 6, false, 1));
        x.book(convoy, Canal.ship(x, NORTH, 0));
        Canal.until(x, 12);
        Check.due("one minute left, and one is ahead", x.told(1, 1), 1);
        Check.due("under way it does not wait", x.waited(1, Canal.QUEUE), 1);
        x.minutes(1);
        Check.due("in the minute in which it has none left it does", x.waited(1, Canal.QUEUE), 2);
        Canal.until(x, 50);
        waitedOnlyBy("by nothing else", x, 1, Canal.QUEUE, 39);
        waitedOnlyBy("the first by its cause", x, 0, Canal.TIDE, 39);
    }

    private static void agroundStandsStill() {
        Check.sentence("One that is aground, and those of its WAY behind it there, have no MINUTE less to go, and wait by 0");
        ShipCut x = Canal.of("BBBBBBBB", 5);
        Canal.convoyOf(x, NORTH, 1, 1);
        Canal.until(x, 5);
        Check.due("two to go", x.told(0, 1), 2);
        x.ground(0, 3);
        Canal.until(x, 8);
        Check.due("still two to go", x.told(0, 1), 2);
        waitedOnlyBy("each minute", x, 0, Canal.GROUNDED, 3);
        x.minutes(1);
        Check.due("then one", x.told(0, 1), 1);
        x.minutes(1);
        Check.due("then gone on", x.told(0, 0), 1);
        // With none to go it stays as well, at the end of the canal too.
        ShipCut y = Canal.of("BBBBBBBB", 1);
        y.section(7, 2, 40, true);
        Canal.convoyOf(y, NORTH, 1, 1);
        Canal.until(y, 9);
        Check.due("in the last one", y.told(0, 0), 7);
        y.minutes(1);
        y.ground(0, 4);
        Canal.until(y, 14);
        Check.due("not out while it is aground", y.told(0, 0), 7);
        y.minutes(1);
        Check.due("out then", y.told(0, 5), 14);
    }

    private static void thoseBehindOneAground() {
        ShipCut x = Canal.of("BBBBBBBB", 20);
        x.rule(0, 1);
        Canal.convoyOf(x, NORTH, 1, 3);
        Canal.until(x, 5);
        int second = x.told(1, 1), third = x.told(2, 1);
        int queued = x.waited(2, Canal.QUEUE);
        x.ground(0, 30);
        Canal.until(x, 35);
        Check.due("the second has no minute less", x.told(1, 1), second);
        Check.due("the third neither", x.told(2, 1), third);
        for (int ship = 0; ship < 3; ship++) {
            Check.due("each waits by 0: " + ship, x.waited(ship, Canal.GROUNDED), 30);
        }
        Check.due("and not by the queue", x.waited(2, Canal.QUEUE), queued);
        x.minutes(1);
        Check.due("under way again", x.told(2, 1), third - 1);
        // Behind one aground that is behind another one aground, a minute counts once.
        ShipCut y = Canal.of("BBBBBBBB", 20);
        y.rule(0, 1);
        Canal.convoyOf(y, NORTH, 1, 3);
        Canal.until(y, 5);
        y.ground(0, 3);
        y.ground(1, 8);
        Canal.until(y, 15);
        Check.due("the first for 3", y.waited(0, Canal.GROUNDED), 3);
        Check.due("the second for 8", y.waited(1, Canal.GROUNDED), 8);
        Check.due("the third for 8", y.waited(2, Canal.GROUNDED), 8);
    }

    private static void thoseNotBehindOneAground() {
        ShipCut x = Canal.of("BBBBBBBB", 20);
        x.rule(0, 1);
        Canal.convoyOf(x, NORTH, 1, 3);
        Canal.until(x, 5);
        x.ground(1, FOREVER);
        Canal.until(x, 162);
        Check.due("the one ahead is out in its time", x.told(0, 5), 161);
        Check.due("and never waited", x.waited(0, -1), 0);
        Check.due("the one behind stands", x.told(2, 0), 0);
        // One of the other way, in the same bypass, goes on; one of its own in the section behind is under way.
        ShipCut y = Canal.of("BBBBBBBB", 10);
        Canal.convoyOf(y, NORTH, 1, 1);
        Canal.convoyOf(y, SOUTH, 1, 1);
        Canal.convoyOf(y, NORTH, 32, 1);
        Canal.until(y, 42);
        Check.due("north in 4", y.told(0, 0), 4);
        Check.due("south in 3", y.told(1, 0), 3);
        y.ground(1, FOREVER);
        Canal.until(y, 52);
        Check.due("north goes on", y.told(0, 0), 5);
        Check.due("the next of north is under way behind it", y.told(2, 0), 1);
        Canal.until(y, 100);
        Check.due("up to the section that is barred", y.told(2, 0), 2);
        waitedOnlyBy("by one aground of the other way", y, 2, Canal.GROUNDED, 38);
    }

    private static void agroundForSoMany() {
        Check.sentence("AGROUND is a SHIP from a MINUTE told on for so many MINUTES");
        for (int n : new int[] {1, 2, 299, 500}) {
            ShipCut x = Canal.of("BBBBBBBB", 9);
            Canal.convoyOf(x, SOUTH, 1, 1);
            Canal.until(x, 2);
            Check.due("aground for " + n, x.ground(0, n), 1);
            Check.due("left at once, of " + n, x.told(0, 7), n);
            Canal.until(x, 1 + n);
            Check.due("one is left, of " + n, x.told(0, 7), 1);
            Check.due("aground to the last of " + n, x.ground(0, 1), ShipCut.NO);
            x.minutes(1);
            Check.due("none is left, of " + n, x.told(0, 7), 0);
            Check.due("no minute less to go in " + n, x.told(0, 1), 9);
            waitedOnlyBy("for " + n, x, 0, Canal.GROUNDED, n);
            Check.due("it may be aground again after " + n, x.ground(0, 1), 1);
        }
        ShipCut y = Canal.of("BBBBBBBB", 9);
        y.convoy(NORTH, 9998);
        y.book(0, Canal.ship(y, NORTH, 0));
        Canal.until(y, 9999);
        Check.due("aground beyond the last minute", y.ground(0, 500), 1);
        y.minutes(1);
        Check.due("what is left then", y.told(0, 7), 499);
    }
}

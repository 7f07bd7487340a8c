/** Part 3 of the terms: the dues, at the edges of the tons, of being late and of waiting by 0. */
public final class DuesEdgesTest {
    private static final int NORTH = Canal.NORTH;

    public static void main(String[] args) {
        tons();
        lateTenth();
        lateOnce();
        lateHoweverItEnds();
        moreThanSixty();
        sixtyInParts();
        twentieth();
        twentiethOfThat();
        otherCausesTakeNothing();
        Check.finish();
    }

    /** A ship of these tons that is late, or not, and has waited by 0 for so many minutes. */
    private static int dues(int tons, boolean late, int grounded) {
        ShipCut x = Canal.of("BBBBBBBB", 60);
        x.rule(1, 1);
        x.convoy(NORTH, 1);
        x.book(0, x.ship(NORTH, late ? 2 : 1, false, 1, false, tons));
        Canal.until(x, 3);
        if (grounded > 0) {
            x.ground(0, grounded);
            Canal.until(x, 3 + grounded);
        }
        Check.due("late as it should be", x.told(0, 2), late ? 1 : 0);
        Check.due("waited by 0 as it should have", x.waited(0, Canal.GROUNDED), grounded);
        return x.told(0, 6);
    }

    private static void tons() {
        Check.sentence("of its TONS the first 5000 three each, the next 15000 two each, others one each");
        int[][] rows = {{1, 3}, {2, 6}, {4999, 14997}, {5000, 15000}, {5001, 15002}, {5002, 15004}, {19999, 44998},
            {20000, 45000}, {20001, 45001}, {20002, 45002}, {199999, 224999}, {200000, 225000}};
        for (int[] row : rows) {
            ShipCut x = new ShipCut();
            x.ship(NORTH, 9999, false, 1, false, row[0]);
            Check.due("tons " + row[0] + ", not yet there", x.told(0, 6), row[1]);
            Check.due("tons " + row[0] + ", under way", dues(row[0], false, 0), row[1]);
        }
    }

    private static void lateTenth() {
        Check.sentence("LATE (once): a tenth more, cut");
        int[][] rows = {{1, 3}, {3, 9}, {4, 13}, {6, 19}, {7, 23}, {10, 33}, {13, 42}, {5000, 16500}, {5001, 16502},
            {5002, 16504}, {5003, 16506}, {20009, 49509}, {20010, 49511}, {200000, 247500}};
        for (int[] row : rows) {
            Check.due("late with tons " + row[0], dues(row[0], true, 0), row[1]);
        }
    }

    private static void lateOnce() {
        ShipCut x = Canal.of("BBBBBBBB", 3);
        x.convoy(NORTH, 1);
        x.convoy(NORTH, 90);
        x.book(0, x.ship(NORTH, 2, false, 1, false, 100));
        Canal.until(x, 2);
        Check.due("ahead of its minute", x.told(0, 6), 300);
        x.minutes(1);
        Check.due("late and put off", x.told(0, 6), 330);
        x.minutes(1);
        Check.due("a minute later", x.told(0, 6), 330);
        Canal.until(x, 91);
        Check.due("in with the convoy that it was put off to", x.told(0, 0), 0);
        Check.due("once", x.told(0, 6), 330);
        Canal.until(x, 200);
        Check.due("out", x.told(0, 0), 8);
        Check.due("still once", x.told(0, 6), 330);
    }

    private static void lateHoweverItEnds() {
        ShipCut x = new ShipCut();
        x.convoy(NORTH, 1);
        x.book(0, x.ship(NORTH, 2, false, 1, false, 100));
        Canal.until(x, 3);
        Check.due("left", x.told(0, 3), 1);
        Check.due("one that is left is late too", x.told(0, 6), 330);
    }

    private static void moreThanSixty() {
        Check.sentence("when it waited by 0 more than 60 MINUTES");
        Check.due("59", dues(100, false, 59), 300);
        Check.due("60", dues(100, false, 60), 300);
        Check.due("61", dues(100, false, 61), 285);
        Check.due("62", dues(100, false, 62), 285);
        Check.due("500", dues(100, false, 500), 285);
    }

    private static void sixtyInParts() {
        // Aground itself for 40, then behind another one aground: it is the sum that counts.
        ShipCut x = Canal.of("BBBBBBBB", 60);
        x.rule(0, 1);
        Canal.convoyOf(x, NORTH, 1, 2);
        Canal.until(x, 3);
        x.ground(1, 40);
        Canal.until(x, 43);
        x.ground(0, 100);
        Canal.until(x, 63);
        Check.due("40 and 20", x.waited(1, Canal.GROUNDED), 60);
        Check.due("dues of 60", x.told(1, 6), 300);
        x.minutes(1);
        Check.due("dues of 61", x.told(1, 6), 285);
        // One in the line, barred from the section, waits by 0 as well.
        ShipCut y = Canal.of("BBBBBBBB", 60);
        Canal.convoyOf(y, NORTH, 1, 1);
        Canal.convoyOf(y, NORTH, 2, 1);
        Canal.until(y, 2);
        y.ground(0, 90);
        Canal.until(y, 62);
        Check.due("60 in the line", y.told(1, 6), 300);
        y.minutes(1);
        Check.due("61 in the line", y.told(1, 6), 285);
    }

    private static void twentieth() {
        Check.sentence("a twentieth of that less, cut");
        int[][] rows = {{1, 3}, {6, 18}, {7, 20}, {13, 38}, {14, 40}, {20, 57}, {5000, 14250}, {20000, 42750},
            {20019, 42769}, {20020, 42769}, {200000, 213750}};
        for (int[] row : rows) {
            Check.due("tons " + row[0], dues(row[0], false, 61), row[1]);
        }
    }

    private static void twentiethOfThat() {
        // 66 tons: 198, late 19 more: 217, a twentieth of 217 is 10. Of 198 it would be 9.
        Check.due("late, and waited by 0", dues(66, true, 61), 207);
        // 7 tons: 21, late 23, less 1. The twentieth first would be 20, and 22 then as well; 13 tons tell them apart.
        Check.due("late, and waited by 0", dues(7, true, 61), 22);
        Check.due("late, and waited by 0", dues(13, true, 61), 40);
        Check.due("late, and not long enough", dues(66, true, 60), 217);
        Check.due("most of all", dues(200000, true, 61), 235125);
    }

    private static void otherCausesTakeNothing() {
        ShipCut x = Canal.of("........", 60);
        x.section(0, 60, 5, false);
        int convoy = x.convoy(NORTH, 1);
        x.book(convoy, x.ship(NORTH, 0, false, 6, false, 100));
        x.book(convoy, x.ship(NORTH, 0, false, 1, false, 100));
        Canal.until(x, 200);
        Check.due("waited long by the tide", x.waited(0, Canal.TIDE), 199);
        Check.due("waited long by the queue", x.waited(1, Canal.QUEUE), 199);
        Check.due("no less for that", x.told(0, 6), 300);
        Check.due("no less for that either", x.told(1, 6), 300);
    }
}

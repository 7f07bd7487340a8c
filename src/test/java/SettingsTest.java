/** Promises 1 to 5: a new object, section, tide, wind, rule. */
public final class SettingsTest {
    public static void main(String[] args) {
        newObject();
        sections();
        sectionsAtFirst();
        tides();
        winds();
        rules();
        Check.finish();
    }

    private static void newObject() {
        ShipCut x = new ShipCut();
        for (int what = 0; what <= 7; what++) {
            Check.due("new: count " + what, x.count(what), 0);
        }
        for (int hour = 0; hour < 24; hour++) {
            Check.due("new: tide " + hour, x.tide(hour, 0), 0);
            Check.due("new: wind " + hour, x.wind(hour, 0), 0);
        }
        Check.due("new: gap", x.rule(0, 5), 5);
        Check.due("new: rule", x.rule(1, 0), 0);
        for (int way = 0; way <= 1; way++) {
            Check.due("new: line", x.line(way, 0), ShipCut.NONE);
            for (int s = 0; s < 8; s++) {
                Check.due("new: in " + s, x.in(s, way, 0), ShipCut.NONE);
            }
        }
        Check.due("new: first minute", x.minutes(1), 1);
        ShipCut y = new ShipCut();
        Check.due("another object has its own minutes", y.count(2), 0);
    }

    private static void sections() {
        ShipCut x = new ShipCut();
        int[][] bad = {{-1, 1, 1}, {8, 1, 1}, {0, 0, 1}, {0, 61, 1}, {0, 1, 0}, {0, 1, 41}, {7, -5, 3},
            {Integer.MIN_VALUE, 1, 1}, {Integer.MAX_VALUE, 1, 1}, {0, Integer.MAX_VALUE, 1}, {0, 1, Integer.MIN_VALUE}};
        for (int[] b : bad) {
            Check.due("bad section " + b[0] + " " + b[1] + " " + b[2], x.section(b[0], b[1], b[2], false), ShipCut.BAD);
        }
        Check.due("least section", x.section(0, 1, 1, true), 0);
        Check.due("most section", x.section(7, 60, 40, false), 0);
        Check.due("a section again", x.section(0, 3, 2, false), 0);
        x.minutes(1);
        Check.due("bad goes ahead of no", x.section(8, 1, 1, true), ShipCut.BAD);
        Check.due("a minute has gone", x.section(0, 1, 1, true), ShipCut.NO);

        // What was told last is what ships meet: length 3, depth 2.
        int fits = x.ship(0, 1, false, 2, false, 1);
        int deep = x.ship(0, 1, false, 3, false, 1);
        int c = x.convoy(0, 2);
        x.book(c, fits);
        x.book(c, deep);
        Canal.until(x, 3);
        Check.due("the refused length changed nothing", x.told(fits, 1), 3);
        Canal.until(x, 20);
        Check.due("the depth keeps the deep one out", x.told(deep, 0), -1);
        Check.due("by tide", x.waited(deep, Canal.TIDE), 13);
    }

    private static void sectionsAtFirst() {
        ShipCut x = new ShipCut();
        int c = x.convoy(0, 1);
        x.book(c, x.ship(0, 0, false, 15, true, 1));
        x.book(c, x.ship(0, 0, false, 16, false, 1));
        Canal.until(x, 2);
        Check.due("a length is 20 at first, slow twice that", x.told(0, 1), 40);
        Canal.until(x, 7);
        Check.due("a depth is 15 at first", x.waited(1, Canal.TIDE), 1);
        int s = x.convoy(1, 8);
        x.book(s, x.ship(1, 7, false, 1, false, 1));
        Canal.until(x, 9);
        Check.due("no bypass at first: all are one chain", x.waited(2, Canal.ONCOMING), 1);
    }

    private static void tides() {
        ShipCut x = new ShipCut();
        int[][] bad = {{-1, 0}, {24, 0}, {0, -1}, {0, 10}, {Integer.MAX_VALUE, 3}, {3, Integer.MIN_VALUE}};
        for (int[] b : bad) {
            Check.due("bad tide " + b[0] + " " + b[1], x.tide(b[0], b[1]), ShipCut.BAD);
        }
        Check.due("tide", x.tide(0, 9), 0);
        Check.due("bad tide keeps what was", x.tide(0, 10), ShipCut.BAD);
        Check.due("tide was", x.tide(0, 2), 9);
        Check.due("tide of the last hour", x.tide(23, 1), 0);
        Check.due("tide of the last hour was", x.tide(23, 0), 1);
        Check.due("tide of another hour", x.tide(1, 0), 0);
        x.minutes(1);
        Check.due("tide after a minute", x.tide(0, 0), 2);
    }

    private static void winds() {
        ShipCut x = new ShipCut();
        int[][] bad = {{-1, 0}, {24, 0}, {0, -2}, {0, 13}, {Integer.MIN_VALUE, 3}, {3, Integer.MAX_VALUE}};
        for (int[] b : bad) {
            Check.due("bad wind " + b[0] + " " + b[1], x.wind(b[0], b[1]), -9);
        }
        Check.due("wind", x.wind(0, 12), 0);
        Check.due("wind was", x.wind(0, -1), 12);
        Check.due("bad wind keeps what was", x.wind(0, 13), -9);
        Check.due("missing was", x.wind(0, 4), -1);
        Check.due("wind of the last hour", x.wind(23, 7), 0);
        x.minutes(1);
        Check.due("wind after a minute", x.wind(23, 0), 7);
    }

    private static void rules() {
        ShipCut x = new ShipCut();
        int[][] bad = {{-1, 0}, {2, 0}, {0, -1}, {0, 61}, {1, -1}, {1, 2}, {Integer.MAX_VALUE, 0}, {1, Integer.MIN_VALUE}};
        for (int[] b : bad) {
            Check.due("bad rule " + b[0] + " " + b[1], x.rule(b[0], b[1]), ShipCut.BAD);
        }
        Check.due("gap", x.rule(0, 60), 5);
        Check.due("bad gap keeps what was", x.rule(0, 61), ShipCut.BAD);
        Check.due("gap was", x.rule(0, 0), 60);
        Check.due("rule", x.rule(1, 1), 0);
        Check.due("bad rule keeps what was", x.rule(1, 2), ShipCut.BAD);
        Check.due("rule was", x.rule(1, 1), 1);
        x.minutes(1);
        Check.due("gap after a minute", x.rule(0, 7), 0);
        Check.due("rule after a minute", x.rule(1, 0), 1);
    }
}

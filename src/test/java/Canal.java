/** Canals and ships that several tests begin with. */
final class Canal {
    static final int NORTH = 0, SOUTH = 1;
    static final int GROUNDED = 0, ONCOMING = 1, CROWDED = 2, GAP = 3, TIDE = 4, WIND = 5, QUEUE = 6;

    private Canal() {
    }

    /** Every section of one length, deep enough for all; 'B' in the map is a bypass, from south to north. */
    static ShipCut of(String map, int length) {
        ShipCut x = new ShipCut();
        for (int s = 0; s < 8; s++) {
            x.section(s, length, 40, map.charAt(s) == 'B');
        }
        return x;
    }

    /** A plain small ship that is there at a minute. */
    static int ship(ShipCut x, int way, int minute) {
        return x.ship(way, minute, false, 1, false, 100);
    }

    /** Ships that are there at minute 0, and a convoy of their way with all of them. */
    static int convoyOf(ShipCut x, int way, int start, int howMany) {
        return deepConvoyOf(x, way, start, howMany, 1);
    }

    /** The same, of ships with a draught that the depths can matter to. */
    static int deepConvoyOf(ShipCut x, int way, int start, int howMany, int draught) {
        int convoy = x.convoy(way, start);
        for (int i = 0; i < howMany; i++) {
            x.book(convoy, x.ship(way, 0, false, draught, false, 100));
        }
        return convoy;
    }

    /** Minutes in steps that the class takes, until the one told is about to begin. */
    static void until(ShipCut x, int minute) {
        for (int now = x.count(2); now < minute; now = x.count(2)) {
            x.minutes(Math.min(300, minute - now));
        }
    }
}

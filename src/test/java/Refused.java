import java.util.ArrayList;
import java.util.List;

/**
 * "Nothing changes then": a call that is refused is made on one of two canals that are otherwise
 * alike, and both must go on answering alike. The canals are made anew for each part of the
 * questions, so that none of them is used for more than the 512 calls that are promised.
 */
final class Refused {
    /** The calls that lead to a state. */
    interface Lead {
        void on(ShipCut x);
    }

    /** One call. */
    interface Call {
        int on(ShipCut x);
    }

    private static final int PARTS = 5;
    // Now, soon, and when much has happened: a change that can't be asked for shows in what comes of it.
    private static final int[] LATER = {0, 7, 290};

    private Refused() {
    }

    static void due(String name, Lead lead, Call call, int want) {
        ShipCut first = new ShipCut();
        lead.on(first);
        Check.due(name, call.on(first), want);
        for (int later : LATER) {
            for (int part = 0; part < PARTS; part++) {
                List<Integer> without = answers(lead, null, later, part);
                List<Integer> with = answers(lead, call, later, part);
                Check.holds(name + " changes nothing, " + later + " minutes later, part " + part, with.equals(without));
            }
        }
    }

    private static List<Integer> answers(Lead lead, Call call, int later, int part) {
        ShipCut x = new ShipCut();
        lead.on(x);
        if (call != null) {
            call.on(x);
        }
        if (later > 0) {
            x.minutes(later);
        }
        List<Integer> found = new ArrayList<>();
        switch (part) {
            case 0: askRows(x, found); break;
            case 1: askTold(x, found); break;
            case 2: askWaited(x, found); break;
            case 3: askSettings(x, found); break;
            default: askPlaces(x, found); break;
        }
        return found;
    }

    private static void askRows(ShipCut x, List<Integer> found) {
        for (int what = 0; what < 8; what++) {
            found.add(x.count(what));
        }
        for (int way = 0; way < 2; way++) {
            for (int i = 0; i < 30; i++) {
                found.add(x.line(way, i));
            }
            for (int s = 0; s < 8; s++) {
                for (int i = 0; i < 3; i++) {
                    found.add(x.in(s, way, i));
                }
            }
        }
    }

    private static void askTold(ShipCut x, List<Integer> found) {
        for (int ship = 0; ship < 30; ship++) {
            for (int what = 0; what < 9; what++) {
                found.add(x.told(ship, what));
            }
        }
    }

    private static void askWaited(ShipCut x, List<Integer> found) {
        for (int ship = 0; ship < 30; ship++) {
            for (int cause = 0; cause < 7; cause++) {
                found.add(x.waited(ship, cause));
            }
        }
    }

    private static void askSettings(ShipCut x, List<Integer> found) {
        for (int hour = 0; hour < 24; hour++) {
            found.add(x.tide(hour, 0));
            found.add(x.wind(hour, 0));
        }
        found.add(x.rule(0, 0));
        found.add(x.rule(1, 0));
    }

    /** Places for more ships, convoys and bookings show only when they are taken. */
    private static void askPlaces(ShipCut x, List<Integer> found) {
        int behind = x.count(2) + 1;
        for (int way = 0; way < 2; way++) {
            found.add(x.ship(way, behind, false, 1, false, 1));
            found.add(x.convoy(way, behind));
        }
        for (int convoy = 0; convoy < 12; convoy++) {
            for (int ship = 0; ship < 30; ship++) {
                found.add(x.book(convoy, ship));
            }
        }
    }
}

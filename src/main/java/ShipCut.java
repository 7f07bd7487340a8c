/**
 * A ship canal, minute by minute. The document's words are kept as names: a SHIP comes from its
 * LINE into the SECTIONS, goes through them one by one and is OUT; each MINUTE that it may not go
 * on is told by its CAUSE.
 */
public final class ShipCut {
    public static final int BAD = -1, NO = -2, FULL = -3, NONE = -4;

    // Where -1 is an answer of its own, or near one, a bad call is told by this.
    private static final int BAD_ANSWER = -9;

    private static final int NORTH = 0;
    private static final int SOUTH = 1;

    private static final int SECTIONS = 8;
    private static final int LAST_SECTION = SECTIONS - 1;
    private static final int NOT_YET_IN = -1;
    private static final int OUT = SECTIONS;

    private static final int HOURS = 24;
    private static final int LAST_MINUTE = 9999;
    private static final int MOST_SHIPS = 30;
    private static final int MOST_CONVOYS = 12;
    private static final int MOST_BOOKED = 8;
    private static final int MOST_IN_LANE = 3;
    private static final int MISSING = -1;
    private static final int MOST_WIND_FOR_GREAT = 6;

    private static final int GROUNDED = 0;
    private static final int ONCOMING = 1;
    private static final int CROWDED = 2;
    private static final int GAP = 3;
    private static final int TIDE = 4;
    private static final int WIND = 5;
    private static final int QUEUE = 6;
    private static final int CAUSES = 7;
    private static final int ALL_CAUSES = -1;

    // Further back than any GAP reaches, so that a lane that no one came into yet is free.
    private static final int LONG_AGO = -1000;

    private final Section[] sections = new Section[SECTIONS];
    private final int[] tides = new int[HOURS];
    private final int[] winds = new int[HOURS];
    private final Row ships = new Row(MOST_SHIPS);
    private final Convoy[] convoys = new Convoy[MOST_CONVOYS];
    private int convoyCount = 0;
    private final Row northLine = new Row(MOST_SHIPS);
    private final Row southLine = new Row(MOST_SHIPS);
    private int gap = 5;
    private int lateRule = 0;
    private int now = 0;

    public ShipCut() {
        for (int s = 0; s < SECTIONS; s++) {
            sections[s] = new Section(s);
        }
    }

    // ---- what is told of the canal ----

    public int section(int s, int length, int depth, boolean bypass) {
        Section section = sectionAt(s);
        if (section == null || !within(length, 1, 60) || !within(depth, 1, 40)) {
            return BAD;
        }
        if (now > 0) {
            return NO;
        }
        section.length = length;
        section.depth = depth;
        section.bypass = bypass;
        return 0;
    }

    public int tide(int hour, int v) {
        if (!within(hour, 0, HOURS - 1) || !within(v, 0, 9)) {
            return BAD;
        }
        int was = tides[hour];
        tides[hour] = v;
        return was;
    }

    public int wind(int hour, int v) {
        if (!within(hour, 0, HOURS - 1) || !within(v, MISSING, 12)) {
            return BAD_ANSWER;
        }
        int was = winds[hour];
        winds[hour] = v;
        return was;
    }

    public int rule(int what, int v) {
        if (what == 0 && within(v, 0, 60)) {
            int was = gap;
            gap = v;
            return was;
        }
        if (what == 1 && within(v, 0, 1)) {
            int was = lateRule;
            lateRule = v;
            return was;
        }
        return BAD;
    }

    // ---- ships and convoys ----

    public int ship(int way, int minute, boolean great, int draught, boolean slow, int tons) {
        if (!isWay(way) || !within(minute, 0, LAST_MINUTE)
                || !within(draught, 1, 45) || !within(tons, 1, 200000)) {
            return BAD;
        }
        if (minute < now) {
            return NO;
        }
        if (ships.isFull()) {
            return FULL;
        }
        int number = ships.size;
        ships.add(new Ship(number, way, minute, great, draught, slow, tons));
        return number;
    }

    public int convoy(int way, int start) {
        if (!isWay(way) || !within(start, 0, LAST_MINUTE)) {
            return BAD;
        }
        if (start <= now) {
            return NO;
        }
        if (convoyCount >= MOST_CONVOYS) {
            return FULL;
        }
        convoys[convoyCount] = new Convoy(way, start);
        convoyCount++;
        return convoyCount - 1;
    }

    public int book(int convoy, int ship) {
        Convoy into = convoyAt(convoy);
        Ship booked = ships.at(ship);
        if (into == null || booked == null) {
            return BAD;
        }
        if (into.way != booked.way || booked.convoy != NONE
                || into.start <= now || booked.minute < now) {
            return NO;
        }
        if (into.booked.isFull()) {
            return FULL;
        }
        into.booked.add(booked);
        booked.convoy = convoy;
        return into.booked.size;
    }

    public int ground(int ship, int n) {
        Ship stranded = ships.at(ship);
        if (stranded == null || !within(n, 1, 500)) {
            return BAD;
        }
        if (!stranded.isInSection() || stranded.isAground(now)) {
            return NO;
        }
        stranded.agroundUntil = now + n;
        return 1;
    }

    // ---- the minutes ----

    public int minutes(int n) {
        if (!within(n, 1, 300)) {
            return BAD;
        }
        if (now + n > LAST_MINUTE + 1) {
            return FULL;
        }
        for (int i = 0; i < n; i++) {
            startConvoys();
            findLateShips();
            moveShips(NORTH);
            moveShips(SOUTH);
            letFirstIn(NORTH);
            letFirstIn(SOUTH);
            now++;
        }
        return now;
    }

    private void startConvoys() {
        for (int c = 0; c < convoyCount; c++) {
            Convoy starting = convoyAt(c);
            if (starting != null && starting.start == now) {
                joinLine(starting.booked);
                joinLine(starting.putOff);
            }
        }
    }

    private void joinLine(Row row) {
        for (int i = 0; i < row.size; i++) {
            Ship joining = row.at(i);
            if (joining != null && joining.minute <= now) {
                lineOf(joining.way).add(joining);
            }
        }
    }

    private void findLateShips() {
        for (int i = 0; i < ships.size; i++) {
            Ship coming = ships.at(i);
            if (coming != null && coming.minute == now && missedConvoy(coming)) {
                takeLateShip(coming);
            }
        }
    }

    private boolean missedConvoy(Ship coming) {
        Convoy missed = convoyAt(coming.convoy);
        return missed != null && missed.start < now;
    }

    private void takeLateShip(Ship late) {
        late.late = true;
        if (lateRule == 1) {
            lineOf(late.way).add(late);
            return;
        }
        int next = nextConvoy(late.way);
        Convoy later = convoyAt(next);
        if (later == null) {
            late.left = true;
            return;
        }
        later.putOff.add(late);
        late.convoy = next;
    }

    /** The convoy of a way that starts next after this minute, or NONE. */
    private int nextConvoy(int way) {
        int best = NONE;
        int bestStart = LAST_MINUTE + 1;
        for (int c = 0; c < convoyCount; c++) {
            Convoy other = convoyAt(c);
            if (other != null && other.way == way && other.start > now && other.start < bestStart) {
                best = c;
                bestStart = other.start;
            }
        }
        return best;
    }

    // The foremost section goes first, so that a ship that goes on is not moved twice.
    private void moveShips(int way) {
        for (int k = 0; k < SECTIONS; k++) {
            Section section = sectionAt(way == NORTH ? LAST_SECTION - k : k);
            if (section != null) {
                moveWithin(section, section.lane(way).ships);
            }
        }
    }

    private void moveWithin(Section section, Row row) {
        int inside = row.size;
        int staying = 0;
        boolean blocked = false;
        for (int k = 0; k < inside; k++) {
            Ship moving = row.at(staying);
            if (moving == null) {
                return;
            }
            blocked = blocked || moving.isAground(now);
            if (blocked) {
                moving.waitBy(GROUNDED);
                staying++;
            } else if (leaves(moving, section, staying == 0)) {
                row.removeFirst();
            } else {
                staying++;
            }
        }
    }

    /** A minute of a ship that is afloat in a section: whether it goes on, or out, by it. */
    private boolean leaves(Ship moving, Section section, boolean isFirst) {
        if (moving.toGo > 0) {
            moving.toGo--;
        }
        if (moving.toGo > 0) {
            return false;
        }
        if (!isFirst) {
            moving.waitBy(QUEUE);
            return false;
        }
        Section next = sectionAt(moving.way == NORTH ? section.number + 1 : section.number - 1);
        if (next == null) {
            moving.place = OUT;
            moving.wentOut = now;
            return true;
        }
        return comesInto(moving, next, causeAgainst(moving, next));
    }

    private void letFirstIn(int way) {
        Row line = lineOf(way);
        Ship first = line.at(0);
        Section entrance = sectionAt(way == NORTH ? 0 : LAST_SECTION);
        if (first == null || entrance == null) {
            return;
        }
        // Whoever is second now waits in the queue for this minute, even if the first comes in.
        for (int i = 1; i < line.size; i++) {
            Ship behind = line.at(i);
            if (behind != null) {
                behind.waitBy(QUEUE);
            }
        }
        if (comesInto(first, entrance, causeAgainst(first, entrance))) {
            first.cameIn = now;
            line.removeFirst();
        }
    }

    /** Puts a ship into a section, or makes it wait if a cause is against it: whether it came in. */
    private boolean comesInto(Ship coming, Section next, int cause) {
        if (cause != NONE) {
            coming.waitBy(cause);
            return false;
        }
        Lane lane = next.lane(coming.way);
        lane.ships.add(coming);
        lane.lastCame = now;
        coming.place = next.number;
        coming.toGo = coming.slow ? 2 * next.length : next.length;
        return true;
    }

    /** The first cause by which a ship may not come into a section now, or NONE. */
    private int causeAgainst(Ship coming, Section next) {
        if (next.north.ships.hasAground(now) || next.south.ships.hasAground(now)) {
            return GROUNDED;
        }
        int other = coming.way == NORTH ? SOUTH : NORTH;
        if (reachesShip(next.number, 1, other) || reachesShip(next.number, -1, other)) {
            return ONCOMING;
        }
        Lane lane = next.lane(coming.way);
        if (lane.ships.isFull()) {
            return CROWDED;
        }
        if (now - lane.lastCame < gap) {
            return GAP;
        }
        if (coming.draught > depthNow(next)) {
            return TIDE;
        }
        if (coming.great && !next.bypass && windBarsGreat()) {
            return WIND;
        }
        return NONE;
    }

    /** Whether a ship of a way is in the chain of a section, there or beyond it by steps. */
    private boolean reachesShip(int from, int step, int way) {
        int s = from;
        for (int k = 0; k < SECTIONS; k++) {
            Section section = sectionAt(s);
            if (section == null || section.bypass) {
                return false;
            }
            if (section.lane(way).ships.size > 0) {
                return true;
            }
            s += step;
        }
        return false;
    }

    private int depthNow(Section section) {
        boolean isTidal = section.number == 0 || section.number == LAST_SECTION;
        return isTidal ? section.depth + ofThisHour(tides) : section.depth;
    }

    private boolean windBarsGreat() {
        int force = ofThisHour(winds);
        return force == MISSING || force > MOST_WIND_FOR_GREAT;
    }

    private int ofThisHour(int[] byHours) {
        int hour = now / 60 % HOURS;
        return hour >= 0 && hour < byHours.length ? byHours[hour] : 0;
    }

    // ---- what can be asked ----

    public int told(int ship, int what) {
        Ship asked = ships.at(ship);
        if (asked == null) {
            return BAD_ANSWER;
        }
        switch (what) {
            case 0: return asked.place;
            case 1: return asked.toGo;
            case 2: return asked.late ? 1 : 0;
            case 3: return asked.left ? 1 : 0;
            case 4: return asked.cameIn;
            case 5: return asked.wentOut;
            case 6: return asked.dues();
            case 7: return asked.isAground(now) ? asked.agroundUntil - now : 0;
            case 8: return asked.convoy;
            default: return BAD_ANSWER;
        }
    }

    public int waited(int ship, int cause) {
        Ship asked = ships.at(ship);
        if (asked == null || !within(cause, ALL_CAUSES, CAUSES - 1)) {
            return BAD;
        }
        return cause == ALL_CAUSES ? asked.waitedInAll() : asked.waits[cause];
    }

    public int line(int way, int i) {
        if (!isWay(way) || i < 0) {
            return BAD;
        }
        return lineOf(way).numberAt(i);
    }

    public int in(int section, int way, int i) {
        Section asked = sectionAt(section);
        if (asked == null || !isWay(way) || i < 0) {
            return BAD;
        }
        return asked.lane(way).ships.numberAt(i);
    }

    public int count(int what) {
        switch (what) {
            case 0: return ships.size;
            case 1: return convoyCount;
            case 2: return now;
            case 3:
            case 4:
            case 5:
            case 6: return shipsThat(what);
            case 7: return mostWaysInOneSection();
            default: return BAD;
        }
    }

    private int shipsThat(int what) {
        int found = 0;
        for (int i = 0; i < ships.size; i++) {
            Ship each = ships.at(i);
            if (each != null && each.counts(what)) {
                found++;
            }
        }
        return found;
    }

    private int mostWaysInOneSection() {
        int most = 0;
        for (int s = 0; s < SECTIONS; s++) {
            Section section = sectionAt(s);
            if (section != null && !section.bypass) {
                most = Math.max(most, section.waysInside());
            }
        }
        return most;
    }

    // ---- small helps ----

    private Section sectionAt(int s) {
        return s >= 0 && s < SECTIONS ? sections[s] : null;
    }

    private Convoy convoyAt(int c) {
        return c >= 0 && c < convoyCount ? convoys[c] : null;
    }

    private Row lineOf(int way) {
        return way == NORTH ? northLine : southLine;
    }

    private static boolean isWay(int way) {
        return way == NORTH || way == SOUTH;
    }

    private static boolean within(int v, int least, int most) {
        return v >= least && v <= most;
    }

    /** Ships in order, at most as many as it was made for. */
    private static final class Row {
        private final Ship[] places;
        private int size = 0;

        Row(int most) {
            places = new Ship[Math.max(most, 0)];
        }

        boolean isFull() {
            return size >= places.length;
        }

        void add(Ship last) {
            if (size < places.length) {
                places[size] = last;
                size++;
            }
        }

        /** The i-th, or null where there is none. */
        Ship at(int i) {
            return i >= 0 && i < size ? places[i] : null;
        }

        int numberAt(int i) {
            Ship found = at(i);
            return found == null ? NONE : found.number;
        }

        boolean hasAground(int now) {
            for (int i = 0; i < size; i++) {
                Ship each = at(i);
                if (each != null && each.isAground(now)) {
                    return true;
                }
            }
            return false;
        }

        void removeFirst() {
            if (size == 0) {
                return;
            }
            for (int i = 1; i < size; i++) {
                places[i - 1] = places[i];
            }
            size--;
            places[size] = null;
        }
    }

    /** What a section holds of one way. */
    private static final class Lane {
        private final Row ships = new Row(MOST_IN_LANE);
        private int lastCame = LONG_AGO;
    }

    private static final class Section {
        private final int number;
        private int length = 20;
        private int depth = 15;
        private boolean bypass = false;
        private final Lane north = new Lane();
        private final Lane south = new Lane();

        Section(int number) {
            this.number = number;
        }

        Lane lane(int way) {
            return way == NORTH ? north : south;
        }

        int waysInside() {
            return (north.ships.size > 0 ? 1 : 0) + (south.ships.size > 0 ? 1 : 0);
        }
    }

    private static final class Convoy {
        private final int way;
        private final int start;
        private final Row booked = new Row(MOST_BOOKED);
        private final Row putOff = new Row(MOST_SHIPS);

        Convoy(int way, int start) {
            this.way = way;
            this.start = start;
        }
    }

    private static final class Ship {
        private final int number;
        private final int way;
        private final int minute;
        private final boolean great;
        private final int draught;
        private final boolean slow;
        private final int tons;
        private final int[] waits = new int[CAUSES];
        private int place = NOT_YET_IN;
        private int toGo = 0;
        private boolean late = false;
        private boolean left = false;
        private int cameIn = NONE;
        private int wentOut = NONE;
        private int convoy = NONE;
        // The first minute in which it is afloat again: nothing has to be counted down by it.
        private int agroundUntil = 0;

        Ship(int number, int way, int minute, boolean great, int draught, boolean slow, int tons) {
            this.number = number;
            this.way = way;
            this.minute = minute;
            this.great = great;
            this.draught = draught;
            this.slow = slow;
            this.tons = tons;
        }

        boolean isInSection() {
            return place != NOT_YET_IN && place != OUT;
        }

        boolean isAground(int now) {
            return agroundUntil > now;
        }

        void waitBy(int cause) {
            if (cause >= 0 && cause < CAUSES) {
                waits[cause]++;
            }
        }

        int waitedInAll() {
            int sum = 0;
            for (int cause = 0; cause < CAUSES; cause++) {
                sum += waits[cause];
            }
            return sum;
        }

        /** Whether it is one of those that count(what) is about. */
        boolean counts(int what) {
            switch (what) {
                case 3: return place == OUT;
                case 4: return left;
                case 5: return late;
                case 6: return isInSection();
                default: return false;
            }
        }

        int dues() {
            int first = Math.min(tons, 5000);
            int second = Math.min(tons - first, 15000);
            int sum = 3 * first + 2 * second + (tons - first - second);
            if (late) {
                sum += sum / 10;
            }
            if (waits[GROUNDED] > 60) {
                sum -= sum / 20;
            }
            return sum;
        }
    }
}

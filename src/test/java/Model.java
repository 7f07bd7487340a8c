import java.util.ArrayList;
import java.util.List;

/**
 * The document once more, written for plainness and apart from the class: every question of a
 * minute is answered by looking through all ships. Tests hold the class against it.
 */
final class Model {
    private static final class Vessel {
        int id, way, minute, draught, tons;
        boolean great, slow;
        int at = -1, toGo, came = -4, out = -4, ground, convoy = -4;
        boolean late, left;
        long cameHere; // a running number: who came into a section earlier has the lesser one
        int[] waits = new int[7];
    }

    private static final class Group {
        int way, start;
        List<Vessel> booked = new ArrayList<>(), later = new ArrayList<>();
    }

    private final int[] length = new int[8], depth = new int[8];
    private final boolean[] bypass = new boolean[8];
    private final int[] tide = new int[24], wind = new int[24], rules = {5, 0};
    private final int[][] lastEntry = new int[8][2];
    private final List<Vessel> all = new ArrayList<>();
    private final List<Group> groups = new ArrayList<>();
    private final List<List<Vessel>> lines = List.of(new ArrayList<>(), new ArrayList<>());
    private int t = 0;
    private long entries = 0;

    Model() {
        for (int s = 0; s < 8; s++) {
            length[s] = 20;
            depth[s] = 15;
            lastEntry[s][0] = -9999;
            lastEntry[s][1] = -9999;
        }
    }

    /** One call by the number of its promise. */
    int call(int promise, int[] a) {
        switch (promise) {
            case 2: return section(a[0], a[1], a[2], a[3] != 0);
            case 3: return a[0] < 0 || a[0] > 23 || a[1] < 0 || a[1] > 9 ? -1 : swap(tide, a[0], a[1]);
            case 4: return a[0] < 0 || a[0] > 23 || a[1] < -1 || a[1] > 12 ? -9 : swap(wind, a[0], a[1]);
            case 5: return a[0] < 0 || a[0] > 1 || a[1] < 0 || a[1] > (a[0] == 0 ? 60 : 1) ? -1 : swap(rules, a[0], a[1]);
            case 6: return ship(a);
            case 7: return convoy(a[0], a[1]);
            case 8: return book(a[0], a[1]);
            case 9: return ground(a[0], a[1]);
            case 10: return minutes(a[0]);
            case 11: return told(a[0], a[1]);
            case 12: return waited(a[0], a[1]);
            case 13: return a[0] < 0 || a[0] > 1 || a[1] < 0 ? -1 : nth(lines.get(a[0]), a[1]);
            case 14: return a[0] < 0 || a[0] > 7 || a[1] < 0 || a[1] > 1 || a[2] < 0 ? -1 : nth(inside(a[0], a[1]), a[2]);
            default: return count(a[0]);
        }
    }

    private static int swap(int[] where, int i, int v) {
        int was = where[i];
        where[i] = v;
        return was;
    }

    private static int nth(List<Vessel> list, int i) {
        return i < list.size() ? list.get(i).id : -4;
    }

    private int section(int s, int len, int dep, boolean by) {
        if (s < 0 || s > 7 || len < 1 || len > 60 || dep < 1 || dep > 40) return -1;
        if (t != 0) return -2;
        length[s] = len;
        depth[s] = dep;
        bypass[s] = by;
        return 0;
    }

    private int ship(int[] a) {
        if (a[0] < 0 || a[0] > 1 || a[1] < 0 || a[1] > 9999 || a[3] < 1 || a[3] > 45 || a[5] < 1 || a[5] > 200000) return -1;
        if (a[1] < t) return -2;
        if (all.size() == 30) return -3;
        Vessel v = new Vessel();
        v.id = all.size();
        v.way = a[0];
        v.minute = a[1];
        v.great = a[2] != 0;
        v.draught = a[3];
        v.slow = a[4] != 0;
        v.tons = a[5];
        all.add(v);
        return v.id;
    }

    private int convoy(int way, int start) {
        if (way < 0 || way > 1 || start < 0 || start > 9999) return -1;
        if (start <= t) return -2;
        if (groups.size() == 12) return -3;
        Group g = new Group();
        g.way = way;
        g.start = start;
        groups.add(g);
        return groups.size() - 1;
    }

    private int book(int c, int s) {
        if (c < 0 || c >= groups.size() || s < 0 || s >= all.size()) return -1;
        Group g = groups.get(c);
        Vessel v = all.get(s);
        if (g.way != v.way || v.convoy >= 0 || g.start <= t || v.minute < t) return -2;
        if (g.booked.size() == 8) return -3;
        g.booked.add(v);
        v.convoy = c;
        return g.booked.size();
    }

    private int ground(int s, int n) {
        if (s < 0 || s >= all.size() || n < 1 || n > 500) return -1;
        Vessel v = all.get(s);
        if (v.at < 0 || v.at > 7 || v.ground > 0) return -2;
        v.ground = n;
        return 1;
    }

    private int minutes(int n) {
        if (n < 1 || n > 300) return -1;
        if (t + n > 10000) return -3;
        for (int i = 0; i < n; i++) minute();
        return t;
    }

    private void minute() {
        for (Group g : groups) {
            if (g.start != t) continue;
            List<Vessel> both = new ArrayList<>(g.booked);
            both.addAll(g.later);
            for (Vessel v : both) if (v.minute <= t) lines.get(g.way).add(v);
        }
        for (Vessel v : all) {
            if (v.minute == t && v.convoy >= 0 && groups.get(v.convoy).start < t) late(v);
        }
        for (int s = 7; s >= 0; s--) for (Vessel v : inside(s, 0)) sail(v);
        for (int s = 0; s <= 7; s++) for (Vessel v : inside(s, 1)) sail(v);
        for (int way = 0; way < 2; way++) {
            List<Vessel> line = lines.get(way);
            for (Vessel v : line) if (v != line.get(0)) v.waits[6]++;
            if (!line.isEmpty() && enter(line.get(0), way == 0 ? 0 : 7)) line.remove(0).came = t;
        }
        for (Vessel v : all) if (v.ground > 0) v.ground--;
        t++;
    }

    private void late(Vessel v) {
        v.late = true;
        if (rules[1] == 1) {
            lines.get(v.way).add(v);
            return;
        }
        Group next = null;
        for (Group g : groups) {
            if (g.way == v.way && g.start > t && (next == null || g.start < next.start)) next = g;
        }
        if (next == null) {
            v.left = true;
        } else {
            next.later.add(v);
            v.convoy = groups.indexOf(next);
        }
    }

    private void sail(Vessel v) {
        boolean someAhead = false;
        for (Vessel w : inside(v.at, v.way)) {
            if (w.cameHere > v.cameHere) continue;
            if (w.ground > 0) {
                v.waits[0]++;
                return;
            }
            if (w != v) someAhead = true;
        }
        v.toGo = Math.max(0, v.toGo - 1);
        if (v.toGo > 0) return;
        int next = v.at + 1 - 2 * v.way;
        if (someAhead) {
            v.waits[6]++;
        } else if (next < 0 || next > 7) {
            v.at = 8;
            v.out = t;
        } else {
            enter(v, next);
        }
    }

    private boolean enter(Vessel v, int s) {
        int cause = cause(v, s);
        if (cause >= 0) {
            v.waits[cause]++;
            return false;
        }
        v.at = s;
        v.toGo = length[s] * (v.slow ? 2 : 1);
        v.cameHere = ++entries;
        lastEntry[s][v.way] = t;
        return true;
    }

    private int cause(Vessel v, int s) {
        for (Vessel w : all) if (w.at == s && w.ground > 0) return 0;
        for (Vessel w : all) {
            if (w.way == v.way || w.at < 0 || w.at > 7) continue;
            boolean sameChain = true;
            for (int k = Math.min(s, w.at); k <= Math.max(s, w.at); k++) if (bypass[k]) sameChain = false;
            if (sameChain) return 1;
        }
        if (inside(s, v.way).size() >= 3) return 2;
        if (t - lastEntry[s][v.way] < rules[0]) return 3;
        int hour = t / 60 % 24;
        if (v.draught > depth[s] + (s == 0 || s == 7 ? tide[hour] : 0)) return 4;
        if (v.great && !bypass[s] && (wind[hour] < 0 || wind[hour] > 6)) return 5;
        return -1;
    }

    /** A copy, in the order of coming in. */
    private List<Vessel> inside(int s, int way) {
        List<Vessel> found = new ArrayList<>();
        for (Vessel v : all) if (v.at == s && v.way == way) found.add(v);
        found.sort((a, b) -> Long.compare(a.cameHere, b.cameHere));
        return found;
    }

    private int told(int s, int what) {
        if (s < 0 || s >= all.size() || what < 0 || what > 8) return -9;
        Vessel v = all.get(s);
        int[] answers = {v.at, v.toGo, v.late ? 1 : 0, v.left ? 1 : 0, v.came, v.out, dues(v), v.ground, v.convoy};
        return answers[what];
    }

    private static int dues(Vessel v) {
        // One each for all, one more for the first 20000, another one for the first 5000.
        int sum = v.tons + Math.min(v.tons, 20000) + Math.min(v.tons, 5000);
        if (v.late) sum = sum + sum / 10;
        if (v.waits[0] > 60) sum = sum - sum / 20;
        return sum;
    }

    private int waited(int s, int cause) {
        if (s < 0 || s >= all.size() || cause < -1 || cause > 6) return -1;
        int[] w = all.get(s).waits;
        return cause >= 0 ? w[cause] : w[0] + w[1] + w[2] + w[3] + w[4] + w[5] + w[6];
    }

    private int count(int what) {
        int out = 0, left = 0, late = 0, in = 0, ways = 0;
        for (Vessel v : all) {
            out += v.at == 8 ? 1 : 0;
            left += v.left ? 1 : 0;
            late += v.late ? 1 : 0;
            in += v.at >= 0 && v.at < 8 ? 1 : 0;
        }
        for (int s = 0; s < 8; s++) {
            if (!bypass[s]) ways = Math.max(ways, (inside(s, 0).isEmpty() ? 0 : 1) + (inside(s, 1).isEmpty() ? 0 : 1));
        }
        int[] answers = {all.size(), groups.size(), t, out, left, late, in, ways};
        return what < 0 || what > 7 ? -1 : answers[what];
    }
}

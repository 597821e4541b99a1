import java.util.ArrayList;
import java.util.List;
import java.util.TreeSet;

/** The document once more, hour by hour and in its slowest form, for comparing with the class. */
final class Oracle {
    private static final int[] EAST = {0, 1, 1, 1, 0, -1, -1, -1};
    private static final int[] SOUTH = {-1, -1, 0, 1, 1, 1, 0, -1};

    private static final class Vessel {
        int kind, cell, gone, way, chests, foul, rate, premium, cells;
        int home = -9, entry = -9;
        List<int[]> orders = new ArrayList<>();
        List<int[]> sights = new ArrayList<>();
    }

    private final boolean[] land = new boolean[160];
    private final Byte[][] charts = new Byte[12][];
    private final List<Vessel> ships = new ArrayList<>();
    private final int[] found = new int[6];
    private int latest, hour, home, gate, price = 100, fall = 1;
    private long asked;

    private boolean in(int v, int least, int most) {
        return least <= v && v <= most;
    }

    private boolean isShip(int s) {
        return in(s, 0, ships.size() - 1);
    }

    private int find(int f) {
        latest = f;
        found[f]++;
        return -3;
    }

    int land(int cell, boolean is) {
        if (!in(cell, 0, 159)) return -1;
        int was = land[cell] ? 1 : 0;
        land[cell] = is;
        return was;
    }

    int chart(int month) {
        if (!in(month, 0, 11)) return -1;
        int was = charts[month] == null ? 0 : 1;
        charts[month] = new Byte[160];
        java.util.Arrays.fill(charts[month], (byte) 0);
        return was;
    }

    int wind(int month, int cell, int v) {
        if (!in(month, 0, 11)) return -1;
        if (charts[month] == null) return find(1);
        if (!in(cell, 0, 159)) return find(2);
        int was = charts[month][cell];
        charts[month][cell] = (byte) v;
        return 1000 + was;
    }

    int tear(int month) {
        if (!in(month, 0, 11)) return -1;
        if (charts[month] == null) return find(1);
        charts[month] = null;
        return 1;
    }

    int copy(int month, int i, int to, int j, int n) {
        if (!in(month, 0, 11) || !in(to, 0, 11)) return -1;
        if (n < 0) return find(5);
        if (charts[month] == null || charts[to] == null) return find(1);
        if (i < 0 || j < 0 || (long) i + n > 160 || (long) j + n > 160) return find(2);
        Byte[] taken = charts[month].clone();
        for (int k = 0; k < n; k++) charts[to][j + k] = taken[i + k];
        return 1;
    }

    int mean(int month) {
        if (!in(month, 0, 11)) return -1;
        if (charts[month] == null) return find(1);
        int sum = 0;
        for (Byte b : charts[month]) if (in(b, 0, 79)) sum += b % 10;
        return sum / 160;
    }

    int ship(int kind, int cell, int chests) {
        if (!in(kind, 0, 3) || !in(cell, 0, 159) || land[cell] || !in(chests, 0, 20000)) return -1;
        if (ships.size() == 8) return -2;
        if (hour != 0) return -4;
        Vessel v = new Vessel();
        v.kind = kind;
        v.cell = cell;
        v.chests = chests;
        ships.add(v);
        return ships.size() - 1;
    }

    int foul(int s, int f) {
        if (!isShip(s) || !in(f, 0, 9)) return -1;
        int was = ships.get(s).foul;
        ships.get(s).foul = f;
        return was;
    }

    int told(int s, int what) {
        if (!isShip(s) || !in(what, 0, 6)) return -1;
        Vessel v = ships.get(s);
        return new int[] {v.kind, v.cell, v.gone, v.way, v.home, v.entry, v.chests}[what];
    }

    int mark(int s, int kind) {
        if (!isShip(s) || !in(kind, 1, 3)) return -1;
        Vessel v = ships.get(s);
        if (kind == 1 && (v.kind == 1 || v.kind == 3)) return v.orders.size();
        if (kind == 2 && v.kind == 2) return Math.max(0, 8 - v.foul);
        if (kind == 3 && v.kind == 3) return v.cells;
        return find(3);
    }

    private int pace(Vessel v, int way, int from, int w) {
        int n = 0;
        while ((way + n) % 8 != from && (from + n) % 8 != way) n++;
        int full = n == 0 ? 0 : n == 1 ? w : n == 2 ? 2 * w : n == 3 ? 3 * w : 2 * w;
        if (n == 2 || n == 3) full += v.kind == 1 ? w : v.kind == 3 ? 2 * w : 0;
        if (v.kind == 2) full = 8;
        return Math.max(full - v.foul, 0);
    }

    int speed(int s, int way, int from, int w) {
        if (!isShip(s) || !in(way, 0, 7) || !in(from, 0, 7) || !in(w, 0, 9)) return -1;
        return pace(ships.get(s), way, from, w);
    }

    int order(int s, int a, int b, int c, int d, int w, int way) {
        if (!isShip(s) || !in(a, 0, 15) || !in(b, a, 15) || !in(c, 0, 9) || !in(d, c, 9)) return -1;
        if (!in(w, 0, 9) || !in(way, 0, 7)) return -1;
        if (ships.get(s).orders.size() == 20) return -2;
        ships.get(s).orders.add(new int[] {a, b, c, d, w, way});
        return ships.get(s).orders.size();
    }

    int home(int cell, int g) {
        if (!in(cell, 0, 159) || land[cell] || !in(g, 0, 23)) return -1;
        if (hour != 0) return -4;
        home = cell;
        gate = g;
        return 1;
    }

    private int windAt(int cell, int h) {
        Byte[] chart = charts[h / 720 % 12];
        return chart != null && in(chart[cell], 0, 79) ? chart[cell] : 0;
    }

    private void ask(Vessel v, int h) {
        int x = v.cell % 16;
        int y = v.cell / 16;
        for (int[] o : v.orders) {
            if (in(x, o[0], o[1]) && in(y, o[2], o[3]) && windAt(v.cell, h) % 10 >= o[4]) {
                v.way = o[5];
                break;
            }
        }
    }

    private int need(int way) {
        return way == 0 || way == 2 || way == 4 || way == 6 ? 60 : 85;
    }

    private int next(int cell, int way) {
        int x = cell % 16 + EAST[way];
        int y = cell / 16 + SOUTH[way];
        return in(x, 0, 15) && in(y, 0, 9) && !land[16 * y + x] ? 16 * y + x : -1;
    }

    private void goAnHour(Vessel v) {
        ask(v, hour);
        v.gone += pace(v, v.way, windAt(v.cell, hour) / 10, windAt(v.cell, hour) % 10);
        while (v.home == -9 && v.gone >= need(v.way)) {
            int to = next(v.cell, v.way);
            if (to < 0) {
                v.gone = 0;
                return;
            }
            v.gone -= need(v.way);
            v.cell = to;
            v.cells++;
            ask(v, hour);
            if (to == home) {
                v.home = hour;
                v.entry = hour;
                while (Math.floorMod(v.entry - gate, 24) > 5) v.entry++;
            }
        }
    }

    int run(int n) {
        if (!in(n, 0, 2000)) return -1;
        if (hour + n > 100000) return -2;
        int came = 0;
        for (int i = 0; i < n; i++, hour++) {
            for (Vessel v : ships) {
                if (v.home == -9) {
                    goAnHour(v);
                    came += v.home == -9 ? 0 : 1;
                }
            }
        }
        return came;
    }

    int first() {
        int best = -9;
        for (int s = ships.size() - 1; s >= 0; s--) {
            Vessel v = ships.get(s);
            if (v.home == -9) continue;
            if (best == -9 || v.entry * 1000000L + v.home <= ships.get(best).entry * 1000000L + ships.get(best).home) best = s;
        }
        return best;
    }

    /** Hours until a ship is in the next cell, hour by hour; beyond the most: -1. */
    private int hoursOver(Vessel v, int cell, int way, int start, int most) {
        int gone = 0;
        for (int h = 0; h < most; h++) {
            int wind = windAt(cell, start + h);
            gone += pace(v, way, wind / 10, wind % 10);
            if (gone >= need(way)) return h + 1;
        }
        return -1;
    }

    int least(int s, int from, int to, int start) {
        if (!isShip(s) || !in(from, 0, 159) || land[from] || !in(to, 0, 159) || land[to] || !in(start, 0, 98000)) return -1;
        int[] best = new int[160];
        java.util.Arrays.fill(best, 9999);
        best[from] = 0;
        for (boolean again = true; again;) {
            again = false;
            for (int i = 0; i < 160 * 8; i++) {
                int cell = i / 8;
                int way = i % 8;
                if (best[cell] == 9999 || next(cell, way) < 0) continue;
                int hours = hoursOver(ships.get(s), cell, way, start + best[cell], 2000 - best[cell]);
                if (hours >= 0 && best[cell] + hours < best[next(cell, way)]) {
                    best[next(cell, way)] = best[cell] + hours;
                    again = true;
                }
            }
        }
        return best[to] == 9999 ? -9 : best[to];
    }

    /** The least hours by every row of cells and ways: all hours at which a cell can be come to are gone on from. */
    int leastByAllRows(int s, int from, int to, int start, int most) {
        boolean[][] come = new boolean[most + 1][160];
        TreeSet<Integer> open = new TreeSet<>();
        open.add(from);
        while (!open.isEmpty()) {
            int state = open.pollFirst();
            int h = state / 160;
            int cell = state % 160;
            if (cell == to) return h;
            if (come[h][cell]) continue;
            come[h][cell] = true;
            for (int way = 0; way < 8; way++) {
                if (next(cell, way) < 0) continue;
                int hours = hoursOver(ships.get(s), cell, way, start + h, most - h);
                if (hours >= 0) open.add((h + hours) * 160 + next(cell, way));
            }
        }
        return -9;
    }

    int sight(int s, int cell, int h) {
        if (!isShip(s) || !in(cell, 0, 159) || !in(h, 0, 100000)) return -1;
        List<int[]> own = ships.get(s).sights;
        if (!own.isEmpty() && own.get(own.size() - 1)[1] >= h) return -1;
        if (count(3) == 60) return -2;
        own.add(new int[] {cell, h});
        return count(3);
    }

    private int far(int cell) {
        return Math.max(Math.abs(cell % 16 - home % 16), Math.abs(cell / 16 - home / 16));
    }

    int distance(int s, int h, boolean most) {
        if (!isShip(s) || !in(h, 0, 100000)) return -1;
        int[] before = null;
        int[] after = null;
        for (int[] sight : ships.get(s).sights) {
            if (sight[1] <= h && (before == null || sight[1] > before[1])) before = sight;
            if (sight[1] >= h && (after == null || sight[1] < after[1])) after = sight;
        }
        if (before == null || after == null) return -9;
        if (most) return Math.min(far(before[0]) + h - before[1], far(after[0]) + after[1] - h);
        return Math.max(0, Math.max(far(before[0]) - (h - before[1]), far(after[0]) - (after[1] - h)));
    }

    int ahead(int s, int o, int h) {
        if (!isShip(s) || !isShip(o) || s == o || !in(h, 0, 100000)) return -1;
        if (distance(s, h, true) == -9 || distance(o, h, true) == -9) return -9;
        if (distance(s, h, true) < distance(o, h, false)) return 0;
        return distance(o, h, true) < distance(s, h, false) ? 1 : 2;
    }

    int charter(int s, int rate, int premium) {
        if (!isShip(s) || !in(rate, 0, 1000) || !in(premium, 0, 100000)) return -1;
        ships.get(s).rate = rate;
        ships.get(s).premium = premium;
        return 1;
    }

    int freight(int s) {
        if (!isShip(s)) return -1;
        Vessel v = ships.get(s);
        if (v.home == -9) return -4;
        return v.chests * v.rate + (first() == s ? v.premium : 0);
    }

    int market(int p, int f) {
        if (!in(p, 1, 10000) || !in(f, 0, 1000)) return -1;
        price = p;
        fall = f;
        return 1;
    }

    private int priceOf(int s) {
        int before = 0;
        for (int o = 0; o < ships.size(); o++) {
            int apart = ships.get(o).entry - ships.get(s).entry;
            if (ships.get(o).home != -9 && (apart < 0 || apart == 0 && o < s)) before += ships.get(o).chests;
        }
        int p = price;
        for (int sold = 0; sold < before; sold += 100) p -= fall;
        return Math.max(p, 1);
    }

    int sale(int s) {
        if (!isShip(s)) return -1;
        if (ships.get(s).home == -9) return -4;
        asked = (long) ships.get(s).chests * priceOf(s);
        return priceOf(s);
    }

    int meanPrice() {
        long all = 0;
        long chests = 0;
        for (int s = 0; s < ships.size(); s++) {
            if (ships.get(s).home == -9) continue;
            all += (long) ships.get(s).chests * priceOf(s);
            chests += ships.get(s).chests;
        }
        return chests == 0 ? find(4) : (int) (all / chests);
    }

    long asked() {
        return asked;
    }

    int count(int what) {
        int charted = 0;
        for (Byte[] chart : charts) charted += chart == null ? 0 : 1;
        int sights = 0;
        int home = 0;
        for (Vessel v : ships) {
            sights += v.sights.size();
            home += v.home == -9 ? 0 : 1;
        }
        return in(what, 0, 4) ? new int[] {ships.size(), hour, charted, sights, home}[what] : -1;
    }

    int finding() {
        return latest;
    }

    int findings(int f) {
        return in(f, 1, 5) ? found[f] : -1;
    }

    long digest() {
        List<Integer> values = new ArrayList<>();
        for (int what = 0; what < 5; what++) values.add(count(what));
        for (int s = 0; s < ships.size(); s++) {
            for (int what = 0; what < 7; what++) values.add(told(s, what));
        }
        for (Byte[] chart : charts) {
            if (chart == null) values.add(-1);
            else for (Byte b : chart) values.add((int) b);
        }
        long h = 17;
        for (int v : values) h = 31 * h + v;
        return h;
    }
}

/** All promises: runs of calls with drawn numbers, answered by the class and by the slow form beside it. */
public final class OracleTest {
    private static final int RUNS = 400;
    private static final int CALLS = 512;
    private static final int[] EXTREMES = {-1, Integer.MIN_VALUE, Integer.MAX_VALUE, 160, 161, 8, 12, 100001, -1000};

    private static long seed = 20261118;
    private static TeaRace x;
    private static Oracle o;
    private static int wildness;

    public static void main(String[] args) {
        for (int run = 0; run < RUNS; run++) {
            x = new TeaRace();
            o = new Oracle();
            wildness = run % 4 == 0 ? 8 : 60;
            prepare();
            for (int call = 40; call < CALLS; call++) {
                compare("run " + run + ", call " + call, drawn(0, 99));
            }
            Check.due("run " + run + ": digest()", x.digest(), o.digest());
        }
        leastByAllRows();
        Check.close("OracleTest");
    }

    /** The same numbers each time, as a test that fails must fail again. */
    private static int drawn(int least, int most) {
        seed = seed * 6364136223846793005L + 1442695040888963407L;
        return least + (int) Math.floorMod(seed >>> 33, (long) most - least + 1);
    }

    /** A number of a span, but now and then one beyond it. */
    private static int near(int least, int most) {
        if (drawn(0, wildness) > 0) {
            return drawn(least, most);
        }
        return drawn(0, 1) == 0 ? EXTREMES[drawn(0, EXTREMES.length - 1)] : drawn(0, 1) == 0 ? least - 1 : most + 1;
    }

    /** Hours of a run: none or few, or to about a month's end, as ways and winds change there; or as many as there can be. */
    private static int hoursDrawn() {
        switch (drawn(0, 7)) {
            case 0: return drawn(0, 2);
            case 1: return Math.max(0, 720 - o.count(1) % 720 + drawn(-1, 1));
            case 2: return near(0, 2000);
            default: return near(0, 150);
        }
    }

    private static int windDrawn() {
        return drawn(0, 9) == 0 ? drawn(-300, 300) : near(0, 79);
    }

    /** Up to 40 calls: some charts full of wind, some land, some ships under orders. */
    private static void prepare() {
        int home = drawn(0, 159);
        Check.due("home", x.home(home, 3), o.home(home, 3));
        for (int month = 0; month < 2; month++) {
            blowIn(month);
        }
        for (int i = drawn(1, 8); i > 0; i--) {
            int cell = drawn(0, 1) == 0 ? drawn(0, 159) : cellNear(home);
            int kind = drawn(0, 3);
            int chests = drawn(0, 700);
            Check.due("ship", x.ship(kind, cell, chests), o.ship(kind, cell, chests));
        }
    }

    /** Few ships find HOME by chance from far away. */
    private static int cellNear(int cell) {
        int column = Math.max(0, Math.min(15, cell % 16 + drawn(-3, 3)));
        int row = Math.max(0, Math.min(9, cell / 16 + drawn(-3, 3)));
        return 16 * row + column;
    }

    private static void blowIn(int month) {
        Check.due("chart", x.chart(month), o.chart(month));
        int v = drawn(0, 79);
        Check.due("wind", x.wind(month, 0, v), o.wind(month, 0, v));
        for (int done = 1; done < 160; done *= 2) {
            int n = Math.min(done, 160 - done);
            Check.due("copy", x.copy(month, 0, month, done, n), o.copy(month, 0, month, done, n));
        }
    }

    private static void compare(String when, int kind) {
        if (kind < 30) {
            compareSea(when, kind);
        } else if (kind < 60) {
            compareShips(when, kind - 30);
        } else if (kind < 86) {
            compareLogs(when, kind - 60);
        } else {
            compareTold(when, kind - 86);
        }
    }

    private static void compareSea(String when, int kind) {
        int month = near(0, drawn(0, 3) == 0 ? 11 : 2);
        int cell = near(0, 159);
        int v = windDrawn();
        int j = near(0, 159);
        int to = near(0, 2);
        int n = near(0, drawn(0, 1) == 0 ? 20 : 160);
        boolean is = drawn(0, 2) == 0;
        switch (kind) {
            case 0: case 1: case 2: Check.due(when + " land", x.land(cell, is), o.land(cell, is)); break;
            case 3: Check.due(when + " chart", x.chart(month), o.chart(month)); break;
            case 4: Check.due(when + " tear", x.tear(month), o.tear(month)); break;
            case 5: Check.due(when + " mean", x.mean(month), o.mean(month)); break;
            case 6: case 7: case 8: case 9: case 10:
                Check.due(when + " copy", x.copy(month, cell, to, j, n), o.copy(month, cell, to, j, n)); break;
            default: Check.due(when + " wind", x.wind(month, cell, v), o.wind(month, cell, v));
        }
    }

    private static void compareShips(String when, int kind) {
        int ship = near(0, Math.max(0, o.count(0) - 1));
        int cell = near(0, 159);
        int to = near(0, 159);
        int way = near(0, 7);
        int from = near(0, 7);
        int w = near(0, 9);
        int hours = hoursDrawn();
        int start = near(0, drawn(0, 1) == 0 ? 98000 : 3000);
        int k = near(0, 3);
        switch (kind) {
            case 0: Check.due(when + " ship", x.ship(k, cell, 9), o.ship(k, cell, 9)); break;
            case 1: Check.due(when + " foul", x.foul(ship, w), o.foul(ship, w)); break;
            case 2: Check.due(when + " mark", x.mark(ship, k), o.mark(ship, k)); break;
            case 3: case 4: Check.due(when + " speed", x.speed(ship, way, from, w), o.speed(ship, way, from, w)); break;
            case 5: Check.due(when + " home", x.home(cell, from), o.home(cell, from)); break;
            case 6: case 7: Check.due(when + " least", x.least(ship, cell, to, start), o.least(ship, cell, to, start)); break;
            case 8: case 9: case 10: case 11: case 12: case 13: case 14: case 15:
                compareOrder(when, ship, w, way); break;
            default: compareRun(when, hours);
        }
    }

    private static void compareRun(String when, int hours) {
        if (drawn(0, 3) > 0) {
            return;
        }
        Check.due(when + " run", x.run(hours), o.run(hours));
        Check.due(when + " first", x.first(), o.first());
        for (int s = 0; s < o.count(0); s++) {
            for (int what = 0; what < 7; what++) {
                Check.due(when + " told " + s + " " + what, x.told(s, what), o.told(s, what));
            }
            Check.due(when + " mark", x.mark(s, 3), o.mark(s, 3));
            Check.due(when + " freight", x.freight(s), o.freight(s));
            Check.due(when + " sale", x.sale(s), o.sale(s));
            Check.due(when + " asked", x.asked(), o.asked());
        }
    }

    private static void compareOrder(String when, int ship, int w, int way) {
        int a = near(0, 15);
        int b = near(Math.max(0, Math.min(a, 15)), 15);
        int c = near(0, 9);
        int d = near(Math.max(0, Math.min(c, 9)), 9);
        Check.due(when + " order", x.order(ship, a, b, c, d, w, way), o.order(ship, a, b, c, d, w, way));
    }

    private static void compareLogs(String when, int kind) {
        int ship = near(0, Math.max(0, o.count(0) - 1));
        int other = near(0, Math.max(0, o.count(0) - 1));
        int cell = near(0, 159);
        int hour = near(0, drawn(0, 6) == 0 ? 100000 : 60);
        int rate = near(0, 1000);
        int premium = near(0, 100000);
        int price = near(1, drawn(0, 1) == 0 ? 10000 : 40);
        int fall = near(0, drawn(0, 1) == 0 ? 1000 : 4);
        boolean most = drawn(0, 1) == 0;
        switch (kind) {
            case 0: case 1: case 2: case 3: case 4: case 5:
                Check.due(when + " sight", x.sight(ship, cell, hour), o.sight(ship, cell, hour)); break;
            case 6: case 7: case 8: case 9: case 10:
                Check.due(when + " distance", x.distance(ship, hour, most), o.distance(ship, hour, most)); break;
            case 11: case 12: case 13: case 14:
                Check.due(when + " ahead", x.ahead(ship, other, hour), o.ahead(ship, other, hour)); break;
            case 15: case 16: Check.due(when + " charter", x.charter(ship, rate, premium), o.charter(ship, rate, premium)); break;
            case 17: case 18: Check.due(when + " freight", x.freight(ship), o.freight(ship)); break;
            case 19: Check.due(when + " market", x.market(price, fall), o.market(price, fall)); break;
            case 20: case 21: case 22: Check.due(when + " sale", x.sale(ship), o.sale(ship)); break;
            default: Check.due(when + " meanPrice", x.meanPrice(), o.meanPrice());
        }
    }

    private static void compareTold(String when, int kind) {
        int ship = near(0, Math.max(0, o.count(0) - 1));
        int what = near(0, 6);
        switch (kind) {
            case 0: case 1: Check.due(when + " asked", x.asked(), o.asked()); break;
            case 2: case 3: Check.due(when + " count", x.count(what), o.count(what)); break;
            case 4: Check.due(when + " finding", x.finding(), o.finding()); break;
            case 5: case 6: Check.due(when + " findings", x.findings(what), o.findings(what)); break;
            case 7: case 8: Check.due(when + " first", x.first(), o.first()); break;
            case 9: Check.due(when + " digest", x.digest(), o.digest()); break;
            default: Check.due(when + " told", x.told(ship, what), o.told(ship, what));
        }
    }

    /** A sea of 12 cells, so that each hour at which a cell can be come to can be gone on from. */
    private static void leastByAllRows() {
        for (int round = 0; round < 60; round++) {
            x = new TeaRace();
            o = new Oracle();
            for (int cell = 0; cell < 160; cell++) {
                if (cell % 16 > 3 || cell / 16 > 2) {
                    x.land(cell, true);
                    o.land(cell, true);
                }
            }
            x.ship(round % 4, 0, 0);
            o.ship(round % 4, 0, 0);
            int foulness = drawn(0, 2);
            x.foul(0, foulness);
            o.foul(0, foulness);
            for (int month = 0; month < 3; month++) {
                x.chart(month);
                o.chart(month);
                for (int cell = 0; cell < 48; cell++) {
                    int v = drawn(0, 79);
                    x.wind(month, cell, v);
                    o.wind(month, cell, v);
                }
            }
            for (int i = 0; i < 4; i++) {
                int to = 16 * drawn(0, 2) + drawn(0, 3);
                int start = drawn(0, 3) == 0 ? drawn(0, 700) : drawn(640, 720);
                int slow = o.leastByAllRows(0, 0, to, start, 200);
                if (slow >= 0) {
                    Check.due("least(0, 0, " + to + ", " + start + ") by all rows", x.least(0, 0, to, start), slow);
                }
            }
        }
    }
}

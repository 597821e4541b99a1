/** Promises 18 to 20: sights, distances, and who is surely ahead. */
public final class LogTest {
    public static void main(String[] args) {
        sight();
        sightsAreFull();
        distance();
        distanceIsTheGreater();
        distanceByTheNearestSights();
        distanceOfBadNumbers();
        ahead();
        aheadOfBadNumbers();
        Check.close("LogTest");
    }

    private static void sight() {
        TeaRace x = new TeaRace();
        x.ship(0, 0, 0);
        x.ship(0, 0, 0);
        Check.due("sight(0, 5, 7)", x.sight(0, 5, 7), 1);
        Check.due("sight(0, 6, 7) in the same hour", x.sight(0, 6, 7), -1);
        Check.due("sight(0, 6, 6) before", x.sight(0, 6, 6), -1);
        Check.due("sight(0, 6, 8)", x.sight(0, 6, 8), 2);
        Check.due("sight(0, 6, 7) between", x.sight(0, 6, 7), -1);
        Check.due("sight(1, 6, 0) of the other", x.sight(1, 6, 0), 3);
        Check.due("sight(1, 6, 100000)", x.sight(1, 6, 100000), 4);
        Check.due("sight(2, 0, 9)", x.sight(2, 0, 9), -1);
        Check.due("sight(-1, 0, 9)", x.sight(-1, 0, 9), -1);
        Check.due("sight(0, 160, 9)", x.sight(0, 160, 9), -1);
        Check.due("sight(0, -1, 9)", x.sight(0, -1, 9), -1);
        Check.due("sight(0, 0, 100001)", x.sight(0, 0, 100001), -1);
        Check.due("sight(0, 0, -1)", x.sight(0, 0, -1), -1);
        x.land(3, true);
        Check.due("sight(0, 3, 9) on land", x.sight(0, 3, 9), 5);
        Check.due("count(3)", x.count(3), 5);
        TeaRace y = new TeaRace();
        y.ship(0, 0, 0);
        Check.due("sight(0, 0, -1) of none", y.sight(0, 0, -1), -1);
        Check.due("sight(0, 0, 0)", y.sight(0, 0, 0), 1);
    }

    private static void sightsAreFull() {
        TeaRace x = new TeaRace();
        x.ship(0, 0, 0);
        x.ship(0, 0, 0);
        for (int i = 0; i < 60; i++) {
            Check.due("sight " + i, x.sight(i % 2, 159, i), i + 1);
        }
        Check.due("a 61st sight", x.sight(0, 0, 60), -2);
        Check.due("a bad 61st sight", x.sight(0, 0, 58), -1);
        Check.due("count(3)", x.count(3), 60);
        Check.due("the 60th sight", x.distance(1, 59, true), 15);
        Check.due("no 61st sight", x.distance(0, 60, true), -9);
    }

    private static void distances(TeaRace x, int ship, int hour, int least, int most) {
        Check.due("distance(" + ship + ", " + hour + ", false)", x.distance(ship, hour, false), least);
        Check.due("distance(" + ship + ", " + hour + ", true)", x.distance(ship, hour, true), most);
    }

    private static void distance() {
        TeaRace x = new TeaRace();
        x.ship(0, 0, 0);
        distances(x, 0, 0, -9, -9);
        x.sight(0, 10, 100);
        distances(x, 0, 99, -9, -9);
        distances(x, 0, 100, 10, 10);
        distances(x, 0, 101, -9, -9);
        x.sight(0, 4, 110);
        distances(x, 0, 101, 9, 11);
        distances(x, 0, 105, 5, 9);
        distances(x, 0, 109, 3, 5);
        distances(x, 0, 110, 4, 4);
        distances(x, 0, 111, -9, -9);
        x.sight(0, 0, 1000);
        distances(x, 0, 500, 0, 394);
        distances(x, 0, 110, 4, 4);
        Check.due("finding()", x.finding(), 0);
    }

    private static void distanceIsTheGreater() {
        for (int home = 0; home < 160; home += 31) {
            TeaRace x = new TeaRace();
            x.home(home, 0);
            x.ship(0, 0, 0);
            for (int i = 0; i < 60; i++) {
                int cell = i * 37 % 160;
                int columns = Math.abs(cell % 16 - home % 16);
                int rows = Math.abs(cell / 16 - home / 16);
                x.sight(0, cell, i);
                distances(x, 0, i, Math.max(columns, rows), Math.max(columns, rows));
            }
        }
        TeaRace y = new TeaRace();
        y.ship(0, 0, 0);
        y.sight(0, 100, 0);
        distances(y, 0, 0, 6, 6);
        y.home(100, 0);
        distances(y, 0, 0, 0, 0);
    }

    /** Sights that no ship could make true: the nearest ones count, whatever the others say. */
    private static void distanceByTheNearestSights() {
        TeaRace x = new TeaRace();
        x.ship(0, 0, 0);
        x.sight(0, 0, 10);
        x.sight(0, 15, 12);
        x.sight(0, 14, 16);
        x.sight(0, 0, 18);
        distances(x, 0, 14, 13, 16);
        distances(x, 0, 11, 14, 1);
    }

    private static void distanceOfBadNumbers() {
        TeaRace x = new TeaRace();
        x.ship(0, 0, 0);
        distances(x, 1, 0, -1, -1);
        distances(x, -1, 0, -1, -1);
        distances(x, 0, -1, -1, -1);
        distances(x, 0, 100001, -1, -1);
        distances(x, 0, 100000, -9, -9);
    }

    private static void ahead() {
        TeaRace x = new TeaRace();
        x.ship(0, 0, 0);
        x.ship(0, 0, 0);
        x.sight(0, 3, 10);
        Check.due("ahead(0, 1, 10): the other has no sights", x.ahead(0, 1, 10), -9);
        Check.due("ahead(1, 0, 10): the first has no sights", x.ahead(1, 0, 10), -9);
        x.sight(1, 4, 10);
        Check.due("ahead(0, 1, 10)", x.ahead(0, 1, 10), 0);
        Check.due("ahead(1, 0, 10)", x.ahead(1, 0, 10), 1);
        Check.due("ahead(0, 1, 11)", x.ahead(0, 1, 11), -9);
        x.sight(0, 3, 12);
        Check.due("ahead(0, 1, 11): the other is not seen later", x.ahead(0, 1, 11), -9);
        x.sight(1, 7, 13);
        // at 11 the first is 2 .. 4 from HOME and the other 5 .. 5
        Check.due("ahead(0, 1, 11)", x.ahead(0, 1, 11), 0);
        Check.due("ahead(1, 0, 11)", x.ahead(1, 0, 11), 1);
        x.sight(0, 6, 13);
        Check.due("ahead(0, 1, 13)", x.ahead(0, 1, 13), 0);
        x.sight(0, 8, 20);
        x.sight(1, 8, 20);
        Check.due("ahead(0, 1, 20): like ones", x.ahead(0, 1, 20), 2);
        Check.due("ahead(0, 1, 15)", x.ahead(0, 1, 15), 2);
        Check.due("ahead(1, 0, 15)", x.ahead(1, 0, 15), 2);
        aheadByOne();
    }

    /** MOST 5 against LEAST 5 is not surely ahead, against LEAST 6 it is. */
    private static void aheadByOne() {
        TeaRace x = new TeaRace();
        x.ship(0, 0, 0);
        x.ship(0, 0, 0);
        x.ship(0, 0, 0);
        x.sight(0, 4, 0);
        x.sight(0, 4, 2);
        x.sight(1, 6, 0);
        x.sight(1, 6, 2);
        x.sight(2, 7, 0);
        x.sight(2, 7, 2);
        Check.due("5 against 5", x.ahead(0, 1, 1), 2);
        Check.due("5 against 5, turned", x.ahead(1, 0, 1), 2);
        Check.due("5 against 6", x.ahead(0, 2, 1), 0);
        Check.due("5 against 6, turned", x.ahead(2, 0, 1), 1);
    }

    private static void aheadOfBadNumbers() {
        TeaRace x = new TeaRace();
        x.ship(0, 0, 0);
        x.ship(0, 0, 0);
        Check.due("ahead(0, 0, 0)", x.ahead(0, 0, 0), -1);
        Check.due("ahead(0, 2, 0)", x.ahead(0, 2, 0), -1);
        Check.due("ahead(2, 0, 0)", x.ahead(2, 0, 0), -1);
        Check.due("ahead(0, -1, 0)", x.ahead(0, -1, 0), -1);
        Check.due("ahead(-1, 0, 0)", x.ahead(-1, 0, 0), -1);
        Check.due("ahead(0, 1, -1)", x.ahead(0, 1, -1), -1);
        Check.due("ahead(0, 1, 100001)", x.ahead(0, 1, 100001), -1);
        Check.due("ahead(0, 1, 100000)", x.ahead(0, 1, 100000), -9);
    }
}

/** Promises 18 to 20: sights, distances, and who is surely ahead; each sentence has its tests. */
public final class LogTest {
    public static void main(String[] args) {
        sight();
        sightOfBadNumbers();
        sightNotLater();
        sightsAreFull();
        distance();
        distanceOfNone();
        distanceOfBadNumbers();
        ahead();
        aheadUntold();
        aheadOfNone();
        aheadOfBadNumbers();
        Document.close("LogTest");
    }

    private static TeaRace fleet() {
        TeaRace x = new TeaRace();
        for (int ship = 0; ship < 4; ship++) {
            x.ship(ship, 20 + ship, 0);
        }
        return x;
    }

    private static void sight() {
        Document.says(18, "A SIGHT of a SHIP at a CELL at an HOUR: how many there are.");
        TeaRace x = fleet();
        Check.due("sight(0, 0, 0)", x.sight(0, 0, 0), 1);
        Check.due("sight(3, 159, 0)", x.sight(3, 159, 0), 2);
        Check.due("sight(0, 159, 100000)", x.sight(0, 159, 100000), 3);
        Check.due("sight(3, 0, 1)", x.sight(3, 0, 1), 4);
        Check.due("count(3)", x.count(3), 4);
        Check.due("distance of the sight in cell 159", x.distance(3, 0, true), 15);
        Check.due("distance of the sight in cell 0", x.distance(3, 1, true), 0);
    }

    private static void sightOfBadNumbers() {
        Document.says(18, "BAD:");
        Edges.ofNumber("sight of a ship", Seas::atFirst, 0, 3, (x, ship) -> x.sight(ship, 5, 50));
        Edges.ofNumber("sight in a cell", Seas::underWay, 0, 159, (x, cell) -> x.sight(3, cell, 50));
        Edges.ofNumber("sight at an hour", LogTest::fleet, 0, 100000, (x, hour) -> x.sight(3, 5, hour));
        Edges.bad("sight without ships", TeaRace::new, x -> x.sight(0, 0, 0));
    }

    private static void sightNotLater() {
        Document.says(18, "not later than the one before, too;");
        Edges.ofNumber("sight behind that of hour 9", Seas::atFirst, 10, 100000, (x, hour) -> x.sight(0, 5, hour));
        Edges.bad("sight in the same cell and hour", Seas::atFirst, x -> x.sight(0, 6, 9));
        Edges.bad("sight between two", Seas::atFirst, x -> x.sight(0, 6, 5));
        Edges.bad("sight at HOUR 0", Seas::atFirst, x -> x.sight(0, 6, 0));
        Edges.taken("sight of a ship without any", Seas::atFirst, x -> x.sight(2, 6, 0));
        Edges.bad("sight behind the last hour", () -> see(fleet(), 0, 100000), x -> x.sight(0, 6, 100000));
    }

    private static TeaRace see(TeaRace x, int ship, int hour) {
        x.sight(ship, 7, hour);
        return x;
    }

    private static TeaRace fullOfSights() {
        TeaRace x = Seas.atFirst();
        for (int hour = 20; hour < 75; hour++) {
            x.sight(hour % 3, 7, hour);
        }
        return x;
    }

    private static void sightsAreFull() {
        Document.says(18, "FULL.");
        Check.due("count(3)", fullOfSights().count(3), 60);
        for (int s = 0; s < 4; s++) {
            int ship = s;
            Edges.refused("sight 61 of " + ship, LogTest::fullOfSights, x -> x.sight(ship, 7, 90), Edges.FULL, Edges.NO_FINDING);
            Edges.bad("sight 61 of " + ship + ", not later", LogTest::fullOfSights, x -> x.sight(ship, 7, 5));
        }
        Edges.bad("sight 61 in no cell", LogTest::fullOfSights, x -> x.sight(3, 160, 90));
        Edges.bad("sight 61 of no ship", LogTest::fullOfSights, x -> x.sight(4, 7, 90));
    }

    private static void distances(TeaRace x, int ship, int hour, int least, int most) {
        Check.due("distance(" + ship + ", " + hour + ", false)", x.distance(ship, hour, false), least);
        Check.due("distance(" + ship + ", " + hour + ", true)", x.distance(ship, hour, true), most);
    }

    private static void distance() {
        Document.says(19, "LEAST (most: MOST) distance of a SHIP from HOME at an HOUR by its SIGHTS;");
        TeaRace x = fleet();
        x.sight(0, 10, 100);
        x.sight(1, 159, 0);
        x.sight(0, 4, 110);
        x.sight(1, 3, 100000);
        x.sight(0, 0, 1000);
        distances(x, 0, 100, 10, 10);
        distances(x, 0, 101, 9, 11);
        distances(x, 0, 105, 5, 9);
        distances(x, 0, 109, 3, 5);
        distances(x, 0, 110, 4, 4);
        distances(x, 0, 111, 3, 5);
        distances(x, 0, 500, 0, 394);
        distances(x, 0, 999, 0, 1);
        distances(x, 0, 1000, 0, 0);
        distances(x, 1, 0, 15, 15);
        distances(x, 1, 1, 14, 16);
        distances(x, 1, 50000, 0, 50003);
        distances(x, 1, 100000, 3, 3);
        long told = x.digest();
        distances(x, 1, 99999, 2, 4);
        Check.due("distance() changes nothing", x.digest(), told);
    }

    private static void distanceOfNone() {
        Document.says(19, "NONE: it has none then or before, or none then or later.");
        TeaRace x = fleet();
        distances(x, 0, 0, -9, -9);
        x.sight(0, 10, 100);
        distances(x, 0, 0, -9, -9);
        distances(x, 0, 99, -9, -9);
        distances(x, 0, 100, 10, 10);
        distances(x, 0, 101, -9, -9);
        distances(x, 0, 100000, -9, -9);
        x.sight(0, 4, 110);
        distances(x, 0, 99, -9, -9);
        distances(x, 0, 109, 3, 5);
        distances(x, 0, 111, -9, -9);
        distances(x, 1, 105, -9, -9);
        Check.due("finding()", x.finding(), 0);
    }

    private static void distanceOfBadNumbers() {
        Document.says(19, "BAD.");
        Edges.ofNumber("LEAST of a ship", Seas::atFirst, 0, 3, (x, ship) -> x.distance(ship, 5, false));
        Edges.ofNumber("MOST of a ship", Seas::underWay, 0, 3, (x, ship) -> x.distance(ship, 5, true));
        Edges.ofNumber("LEAST at an hour", Seas::atFirst, 0, 100000, (x, hour) -> x.distance(0, hour, false));
        Edges.ofNumber("MOST at an hour", Seas::atFirst, 0, 100000, (x, hour) -> x.distance(0, hour, true));
        Edges.bad("distance without ships", TeaRace::new, x -> x.distance(0, 0, false));
    }

    /** At 11 the first is 2 .. 4 from HOME and the other 5 .. 5. */
    private static TeaRace seenTwice() {
        TeaRace x = fleet();
        x.sight(0, 3, 10);
        x.sight(3, 4, 10);
        x.sight(0, 3, 12);
        x.sight(3, 7, 13);
        return x;
    }

    private static void ahead() {
        Document.says(20, "Who is surely ahead of two SHIPS at an HOUR: 0 the first, 1 the other;");
        TeaRace x = seenTwice();
        Check.due("ahead(0, 3, 10)", x.ahead(0, 3, 10), 0);
        Check.due("ahead(3, 0, 10)", x.ahead(3, 0, 10), 1);
        Check.due("ahead(0, 3, 11)", x.ahead(0, 3, 11), 0);
        Check.due("ahead(3, 0, 11)", x.ahead(3, 0, 11), 1);
        x.sight(0, 6, 13);
        Check.due("ahead(0, 3, 13)", x.ahead(0, 3, 13), 0);
        Check.due("ahead(3, 0, 13)", x.ahead(3, 0, 13), 1);
    }

    private static void aheadUntold() {
        Document.says(20, "2 it can't be told;");
        TeaRace x = seenTwice();
        x.sight(0, 8, 20);
        x.sight(3, 8, 20);
        Check.due("ahead(0, 3, 20): like ones", x.ahead(0, 3, 20), 2);
        Check.due("ahead(0, 3, 15)", x.ahead(0, 3, 15), 2);
        Check.due("ahead(3, 0, 15)", x.ahead(3, 0, 15), 2);
        x.sight(0, 4, 100);
        x.sight(0, 4, 102);
        x.sight(3, 6, 100);
        x.sight(3, 6, 102);
        Check.due("ahead(0, 3, 101): 3 .. 5 and 5 .. 7", x.ahead(0, 3, 101), 2);
        Check.due("ahead(3, 0, 101): 5 .. 7 and 3 .. 5", x.ahead(3, 0, 101), 2);
    }

    private static void aheadOfNone() {
        Document.says(20, "NONE: one has not SIGHTS enough.");
        TeaRace x = fleet();
        Check.due("neither has any", x.ahead(0, 1, 0), -9);
        x.sight(0, 3, 10);
        Check.due("the other has none", x.ahead(0, 1, 10), -9);
        Check.due("the first has none", x.ahead(1, 0, 10), -9);
        x.sight(1, 4, 11);
        Check.due("the other's is later", x.ahead(0, 1, 10), -9);
        Check.due("the first's is before", x.ahead(0, 1, 11), -9);
        x.sight(0, 3, 12);
        Check.due("both have enough", x.ahead(0, 1, 11), 2);
        Check.due("the other's is before", x.ahead(0, 1, 12), -9);
        Check.due("neither has enough", x.ahead(0, 1, 13), -9);
        Check.due("at the last HOUR", x.ahead(0, 1, 100000), -9);
        Check.due("finding()", x.finding(), 0);
    }

    private static void aheadOfBadNumbers() {
        Document.says(20, "BAD: also the same one.");
        Edges.ofNumber("ahead of a ship", Seas::atFirst, 0, 3, (x, ship) -> x.ahead(ship, 1, 5));
        Edges.ofNumber("ahead of another ship", Seas::atFirst, 0, 3, (x, other) -> x.ahead(1, other, 5));
        Edges.ofNumber("ahead at an hour", Seas::underWay, 0, 100000, (x, hour) -> x.ahead(0, 1, hour));
        for (int s = 0; s < 4; s++) {
            int ship = s;
            Edges.bad("ahead of the same one, " + ship, Seas::atFirst, x -> x.ahead(ship, ship, 5));
        }
        Edges.bad("ahead of the same one that there is not", Seas::atFirst, x -> x.ahead(4, 4, 5));
        Edges.bad("ahead without ships", TeaRace::new, x -> x.ahead(0, 1, 0));
    }
}

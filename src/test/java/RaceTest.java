/** Promises 15 to 17: the hours that go by, the first home, and the least hours; each sentence has its tests. */
public final class RaceTest {
    public static void main(String[] args) {
        run();
        runOfNoHours();
        runInParts();
        runOfBadNumbers();
        runBeyond();
        first();
        firstOfNone();
        least();
        leastOfHours();
        leastOfNone();
        leastOfBadNumbers();
        leastOnLand();
        Document.close("RaceTest");
    }

    private static void run() {
        Document.says(15, "n HOURS (0 .. 2000) go by: how many SHIPS came HOME in them.");
        TeaRace x = new TeaRace();
        Seas.steamerEastOfHome(x, 3, 0);
        Seas.steamerEastOfHome(x, 1, 0);
        Seas.steamerEastOfHome(x, 2, 0);
        Check.due("run(7)", x.run(7), 0);
        Check.due("count(1)", x.count(1), 7);
        Check.due("run(1)", x.run(1), 1);
        Check.due("run(0)", x.run(0), 0);
        Check.due("run(15)", x.run(15), 2);
        Check.due("count(1)", x.count(1), 23);
        Check.due("run(2000)", x.run(2000), 0);
        Check.due("count(1)", x.count(1), 2023);
        TeaRace y = new TeaRace();
        for (int ship = 0; ship < 8; ship++) {
            Seas.steamerEastOfHome(y, 1, 0);
        }
        Check.due("run(2000) of eight", y.run(2000), 8);
        Check.due("without ships", new TeaRace().run(2000), 0);
    }

    /** In a run of 0 hours nothing goes by: nothing of what is told changes, at HOUR 0 and later. */
    private static void runOfNoHours() {
        TeaRace x = Seas.atFirst();
        Check.due("run(0) at first", x.run(0), 0);
        Check.holds("run(0) at first changes nothing", Portrait.of(x).equals(Portrait.of(Seas.atFirst())));
        TeaRace y = Seas.underWay();
        Check.due("run(0) under way", y.run(0), 0);
        Check.holds("run(0) under way changes nothing", Portrait.of(y).equals(Portrait.of(Seas.underWay())));
    }

    /** Hours go by alike in one run and in many. */
    private static void runInParts() {
        for (int part : new int[] {1, 7, 50}) {
            TeaRace x = Seas.atFirst();
            TeaRace y = Seas.atFirst();
            int homeInParts = 0;
            for (int gone = 0; gone < 350; gone += part) {
                homeInParts += y.run(part);
            }
            Check.due("HOME in runs of " + part, homeInParts, x.run(350));
            Check.due("digest() by runs of " + part, y.digest(), x.digest());
        }
        TeaRace x = Seas.atFirst();
        TeaRace y = Seas.atFirst();
        int home = x.run(1500);
        Check.due("HOME over two months' ends", y.run(719) + y.run(2) + y.run(719) + y.run(60), home);
        Check.due("digest() over two months' ends", y.digest(), x.digest());
    }

    private static void runOfBadNumbers() {
        Document.says(15, "BAD;");
        Edges.ofNumber("run at first", Seas::atFirst, 0, 2000, TeaRace::run);
        Edges.ofNumber("run under way", Seas::underWay, 0, 2000, TeaRace::run);
        Edges.bad("run of too many at the end", () -> at(100000), x -> x.run(2001));
        Edges.bad("run of fewer than none at the end", () -> at(100000), x -> x.run(-1));
    }

    private static TeaRace at(int hour) {
        TeaRace x = Seas.atFirst();
        Seas.goTo(x, hour);
        return x;
    }

    private static void beyond(int hour, int n) {
        Edges.refused("run(" + n + ") at " + hour, () -> at(hour), x -> x.run(n), Edges.FULL, Edges.NO_FINDING);
    }

    private static void runBeyond() {
        Document.says(15, "FULL: beyond 100000.");
        beyond(100000, 1);
        beyond(100000, 2000);
        beyond(99999, 2);
        beyond(98001, 2000);
        Check.due("run(0) at 100000", at(100000).run(0), 0);
        Check.due("run(1) at 99999", at(99999).run(1), 0);
        TeaRace x = at(98000);
        Check.due("run(2000) at 98000", x.run(2000), 0);
        Check.due("count(1)", x.count(1), 100000);
        Check.due("run(1)", x.run(1), -2);
        Check.due("run(0)", x.run(0), 0);
    }

    private static void first() {
        Document.says(16, "THE FIRST;");
        TeaRace x = new TeaRace();
        x.home(0, 20);
        Seas.steamerEastOfHome(x, 4, 0);
        Seas.steamerEastOfHome(x, 3, 0);
        x.run(23);
        Check.due("told(1, 5)", x.told(1, 5), 22);
        Check.due("first() of one HOME", x.first(), 1);
        x.run(20);
        Check.due("told(0, 5)", x.told(0, 5), 44);
        Check.due("first() by ENTRY", x.first(), 1);
        TeaRace y = new TeaRace();
        y.home(0, 16);
        Seas.steamerEastOfHome(y, 2, 0);
        Seas.steamerEastOfHome(y, 1, 0);
        Seas.steamerEastOfHome(y, 1, 0);
        y.run(38);
        Check.due("told(0, 5)", y.told(0, 5), 16);
        Check.due("told(1, 5)", y.told(1, 5), 16);
        Check.due("first() by HOME, then by number", y.first(), 1);
    }

    private static void firstOfNone() {
        Document.says(16, "NONE: none is HOME.");
        Check.due("first() without ships", new TeaRace().first(), -9);
        TeaRace x = new TeaRace();
        x.ship(0, 0, 0);
        Check.due("first() of one that lies at HOME from the first", x.first(), -9);
        Seas.steamerEastOfHome(x, 1, 0);
        x.run(7);
        Check.due("first() of none HOME", x.first(), -9);
        Check.due("finding()", x.finding(), 0);
        x.run(1);
        Check.due("first() of one HOME", x.first(), 1);
    }

    private static void least() {
        Document.says(17, "THE LEAST HOURS from a CELL to another one");
        TeaRace x = Seas.underWay();
        Check.due("a steamer, first east", x.least(2, 0, 3, 0), 24);
        Check.due("a ship before the wind, 10 an hour", x.least(0, 39, 36, 0), 18);
        Check.due("a clipper across the wind, 15 an hour", x.least(1, 39, 87, 0), 12);
        Check.due("a foul racer across the wind, 18 an hour", x.least(3, 39, 87, 0), 12);
        Check.due("to where it is", x.least(3, 0, 0, 0), 0);
        long told = x.digest();
        x.least(2, 100, 20, 50);
        Check.due("least() changes nothing", x.digest(), told);
        Check.due("cell 158 from cell 0", x.least(2, 0, 158, 0), 9 * 11 + 5 * 8);
    }

    private static void leastOfHours() {
        Document.says(17, "from an HOUR (0 .. 98000) on for a SHIP;");
        Edges.ofNumber("least from an hour", Seas::atFirst, 0, 98000, (x, hour) -> x.least(2, 0, 1, hour));
        TeaRace x = new TeaRace();
        x.ship(0, 0, 0);
        Seas.blow(x, 0, 5);
        Check.due("least(0, 0, 16, 0)", x.least(0, 0, 16, 0), 6);
        Check.due("least(0, 0, 16, 714)", x.least(0, 0, 16, 714), 6);
        Check.due("least(0, 0, 16, 715): from month 0 into a year's calm", x.least(0, 0, 16, 715), -9);
        Check.due("least(0, 0, 16, 8640): a year later", x.least(0, 0, 16, 8640), 6);
        Check.due("least(0, 0, 16, 8639)", x.least(0, 0, 16, 8639), 7);
        // hour 98000 is the 80th of month 4 of its year
        Seas.blow(x, 4, 3);
        Check.due("least(0, 0, 16, 98000)", x.least(0, 0, 16, 98000), 10);
    }

    private static void leastOfNone() {
        Document.says(17, "NONE: none.");
        TeaRace x = new TeaRace();
        x.ship(0, 0, 0);
        x.ship(2, 0, 0);
        Check.due("without any wind", x.least(0, 0, 1, 0), -9);
        for (int cell : new int[] {141, 142, 143, 157}) {
            x.land(cell, true);
        }
        Check.due("with a way", x.least(1, 158, 159, 0), 8);
        Check.due("with land around", x.least(1, 0, 159, 0), -9);
        Check.due("out of land around", x.least(1, 159, 0, 0), -9);
        Check.due("finding()", x.finding(), 0);
    }

    private static void leastOfBadNumbers() {
        Document.says(17, "BAD:");
        Edges.ofNumber("least of a ship", Seas::atFirst, 0, 3, (x, ship) -> x.least(ship, 0, 1, 0));
        Edges.ofNumber("least from a cell", RaceTest::withoutLand, 0, 159, (x, from) -> x.least(2, from, 1, 0));
        Edges.ofNumber("least to a cell", RaceTest::withoutLand, 0, 159, (x, to) -> x.least(2, 1, to, 0));
        Edges.bad("least without ships", TeaRace::new, x -> x.least(0, 0, 0, 0));
    }

    private static TeaRace withoutLand() {
        TeaRace x = Seas.atFirst();
        x.land(159, false);
        return x;
    }

    private static void leastOnLand() {
        Document.says(17, "also LAND.");
        Edges.bad("least from land", Seas::atFirst, x -> x.least(2, 9, 1, 0));
        Edges.bad("least to land", Seas::underWay, x -> x.least(2, 1, 9, 0));
        Edges.bad("least on land", Seas::atFirst, x -> x.least(2, 9, 9, 0));
        Edges.bad("least from the last cell, which is land", Seas::atFirst, x -> x.least(2, 159, 0, 0));
        Edges.taken("least beside land", Seas::atFirst, x -> x.least(2, 8, 10, 0));
    }
}

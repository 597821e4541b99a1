/** Promises 15 to 17: the hours that go by, the first home, and the least hours. */
public final class RaceTest {
    public static void main(String[] args) {
        runOfBadNumbers();
        oneCell();
        justEnough();
        seasEnd();
        landAhead();
        severalCellsInAnHour();
        severalCellsAreStopped();
        windOfEachCell();
        waysAskedAnew();
        runOfNoHours();
        monthsGoBy();
        comingHome();
        notComingHome();
        gate();
        firstByEntry();
        firstOfLikeOnes();
        leastOfBadNumbers();
        leastOverTheSea();
        leastAgainstTheWind();
        leastThroughMonths();
        Check.close("RaceTest");
    }

    private static void lies(String when, TeaRace x, int ship, int cell, int gone) {
        Check.due(when + ": cell of " + ship, x.told(ship, 1), cell);
        Check.due(when + ": gone of " + ship, x.told(ship, 2), gone);
    }

    private static void runOfBadNumbers() {
        TeaRace x = new TeaRace();
        Check.due("run(-1)", x.run(-1), -1);
        Check.due("run(2001)", x.run(2001), -1);
        Check.due("run(max)", x.run(Integer.MAX_VALUE), -1);
        Check.due("run(min)", x.run(Integer.MIN_VALUE), -1);
        Check.due("run(0)", x.run(0), 0);
        Check.due("count(1)", x.count(1), 0);
        for (int i = 0; i < 49; i++) {
            Check.due("run(2000)", x.run(2000), 0);
        }
        Check.due("run(1999)", x.run(1999), 0);
        Check.due("run(2) beyond", x.run(2), -2);
        Check.due("run(2001) beyond", x.run(2001), -1);
        Check.due("count(1)", x.count(1), 99999);
        Check.due("run(1)", x.run(1), 0);
        Check.due("count(1)", x.count(1), 100000);
        Check.due("run(1) beyond", x.run(1), -2);
        Check.due("run(0)", x.run(0), 0);
        Check.due("finding()", x.finding(), 0);
    }

    private static void oneCell() {
        int[] next = {71, 72, 88, 104, 103, 102, 86, 70};
        for (int way = 0; way < 8; way++) {
            TeaRace x = new TeaRace();
            x.ship(2, 87, 0);
            Seas.steer(x, 0, way);
            int hours = way % 2 == 0 ? 8 : 11;
            x.run(hours - 1);
            lies("way " + way + ", nearly", x, 0, 87, 8 * (hours - 1));
            x.run(1);
            lies("way " + way, x, 0, next[way], way % 2 == 0 ? 4 : 3);
        }
    }

    private static void justEnough() {
        TeaRace x = new TeaRace();
        Seas.blow(x, 0, 5);
        x.ship(0, 87, 0);
        x.ship(0, 87, 0);
        Seas.steer(x, 0, 4);
        Seas.steer(x, 1, 1);
        x.run(5);
        lies("50 of 60", x, 0, 87, 50);
        x.run(1);
        lies("60 of 60", x, 0, 103, 0);
        x.run(10);
        lies("80 of 85", x, 1, 87, 80);
        x.run(1);
        lies("85 of 85", x, 1, 72, 0);
    }

    private static void seasEnd() {
        int[] corner = {0, 15, 159, 144, 0, 15, 159, 144};
        int[] way = {0, 2, 4, 6, 6, 0, 2, 4};
        for (int i = 0; i < corner.length; i++) {
            TeaRace x = new TeaRace();
            x.ship(2, corner[i], 0);
            Seas.steer(x, 0, way[i]);
            x.run(7);
            lies("before the sea's end", x, 0, corner[i], 56);
            x.run(1);
            lies("at the sea's end", x, 0, corner[i], 0);
            x.run(2);
            lies("again", x, 0, corner[i], 16);
            Check.due("staying is no coming HOME", x.count(4), 0);
        }
    }

    private static void landAhead() {
        TeaRace x = new TeaRace();
        x.ship(2, 87, 0);
        x.ship(2, 16, 0);
        x.ship(3, 88, 0);
        Seas.steer(x, 0, 3);
        Seas.steer(x, 1, 7);
        x.land(104, true);
        x.land(87, true);
        x.run(11);
        lies("at land", x, 0, 87, 0);
        lies("slanting at the sea's end", x, 1, 16, 0);
        x.land(104, false);
        x.run(11);
        lies("from land to a cell that is land no more", x, 0, 104, 3);
        Check.due("a calm racer has come to no cell", x.mark(2, 3), 0);
    }

    /**
     * A racer that has 80 of 85 gone south-west, when a wind of strength 9 rises everywhere, by which its way
     * is east and its speed 45: 125 are enough for two cells.
     */
    private static TeaRace racerBeforeTwoMoves() {
        TeaRace x = new TeaRace();
        x.home(159, 0);
        Seas.blow(x, 0, 18);
        x.ship(3, 34, 0);
        x.order(0, 0, 15, 0, 9, 9, 2);
        x.order(0, 0, 15, 0, 9, 8, 5);
        x.run(5);
        lies("80 of 85", x, 0, 34, 80);
        Check.due("way", x.told(0, 3), 5);
        Seas.blow(x, 0, 79);
        return x;
    }

    private static void severalCellsInAnHour() {
        TeaRace x = racerBeforeTwoMoves();
        x.run(1);
        lies("two moves", x, 0, 36, 5);
        Check.due("cells come to", x.mark(0, 3), 2);
        TeaRace y = racerBeforeTwoMoves();
        y.wind(0, 35, 8);
        y.run(1);
        lies("85 needed in the second cell", y, 0, 35, 65);
        Check.due("the second cell's way", y.told(0, 3), 5);
        TeaRace z = racerBeforeTwoMoves();
        z.wind(0, 34, 9);
        z.run(1);
        lies("56 in the second cell", z, 0, 35, 56);
        TeaRace calm = racerBeforeTwoMoves();
        calm.chart(0);
        calm.order(0, 0, 15, 0, 9, 0, 4);
        calm.run(1);
        lies("80 are enough for a straight way without wind", calm, 0, 50, 20);
        TeaRace kept = racerBeforeTwoMoves();
        kept.chart(0);
        kept.run(1);
        lies("80 are not enough for the way that it has", kept, 0, 34, 80);
    }

    private static void severalCellsAreStopped() {
        TeaRace x = racerBeforeTwoMoves();
        x.land(36, true);
        x.run(1);
        lies("the second move ends at land", x, 0, 35, 0);
        Check.due("cells come to", x.mark(0, 3), 1);
        TeaRace y = new TeaRace();
        y.home(35, 0);
        Seas.blow(y, 0, 18);
        y.ship(3, 34, 0);
        y.order(0, 0, 15, 0, 9, 9, 2);
        y.order(0, 0, 15, 0, 9, 8, 5);
        y.run(5);
        Seas.blow(y, 0, 79);
        Check.due("one HOME", y.run(1), 1);
        lies("HOME after the first move", y, 0, 35, 65);
        Check.due("none HOME", y.run(100), 0);
        lies("it goes no more", y, 0, 35, 65);
        Check.due("HOUR of HOME", y.told(0, 4), 5);
    }

    /** Wind from the north with 5, 1, then bytes that are none such, in the cells that a ship goes through southward. */
    private static void windOfEachCell() {
        TeaRace x = new TeaRace();
        x.home(159, 0);
        x.chart(0);
        x.wind(0, 7, 5);
        x.wind(0, 23, 1);
        x.wind(0, 39, 85);
        x.wind(0, 55, -1);
        x.ship(0, 7, 0);
        Seas.steer(x, 0, 4);
        // 10 an hour for 6 hours, then 2 an hour for 30
        x.run(7);
        lies("strength 5, then 1", x, 0, 23, 2);
        x.run(28);
        lies("strength 1", x, 0, 23, 58);
        x.run(1);
        lies("85 is calm", x, 0, 39, 0);
        x.run(50);
        lies("85 is calm still", x, 0, 39, 0);
        x.wind(0, 39, 79);
        x.run(40);
        lies("79 drives across by 27, into a byte below 0", x, 0, 55, 21);
    }

    private static void waysAskedAnew() {
        TeaRace x = new TeaRace();
        x.home(159, 0);
        x.chart(0);
        x.ship(2, 87, 0);
        x.order(0, 7, 7, 5, 5, 4, 2);
        x.order(0, 8, 8, 5, 5, 0, 0);
        x.run(3);
        Check.due("none fits", x.told(0, 3), 0);
        x.wind(0, 87, 34);
        x.run(4);
        Check.due("strength 4 fits", x.told(0, 3), 2);
        lies("GONE stays", x, 0, 87, 56);
        x.wind(0, 87, 33);
        x.run(0);
        Check.due("no hour, no asking", x.told(0, 3), 2);
        x.run(1);
        lies("the way that it has", x, 0, 88, 4);
        Check.due("asked in the cell that it came to", x.told(0, 3), 0);
        x.run(7);
        lies("north", x, 0, 72, 0);
        Check.due("none fits there", x.told(0, 3), 0);
        x.order(0, 0, 15, 0, 9, 0, 6);
        Check.due("an order is asked at an hour's begin", x.told(0, 3), 0);
        x.run(1);
        Check.due("asked", x.told(0, 3), 6);
    }

    /** In a run of 0 hours no hour begins: no way is asked, whatever the hour and whatever was told since the last one. */
    private static void runOfNoHours() {
        int[] runsBefore = {0, 1, 719, 720, 721, 1439, 1440};
        for (int i = 0; i < runsBefore.length; i++) {
            String when = "run(0) at hour " + runsBefore[i];
            TeaRace x = new TeaRace();
            x.home(159, 0);
            x.ship(0, 34, 0);
            Seas.blow(x, 0, 25);
            Seas.blow(x, 1, 25);
            Seas.blow(x, 2, 25);
            x.order(0, 0, 15, 0, 9, 6, 3);
            x.order(0, 0, 15, 0, 9, 0, 2);
            x.run(runsBefore[i]);
            int way = runsBefore[i] == 0 ? 0 : 2;
            Check.due(when + ": way before", x.told(0, 3), way);
            Seas.blow(x, 0, 69);
            Seas.blow(x, 1, 69);
            Seas.blow(x, 2, 69);
            long told = x.digest();
            Check.due(when, x.run(0), 0);
            Check.due(when + ": way", x.told(0, 3), way);
            Check.due(when + ": digest()", x.digest(), told);
            lies(when, x, 0, 34, 0);
            x.run(1);
            Check.due(when + ", then run(1): way", x.told(0, 3), 3);
            lies(when + ", then run(1)", x, 0, 34, 27);
        }
    }

    private static void monthsGoBy() {
        TeaRace x = new TeaRace();
        x.home(159, 0);
        Seas.blow(x, 1, 1);
        Seas.blow(x, 11, 2);
        x.ship(0, 7, 0);
        x.order(0, 0, 15, 0, 9, 1, 4);
        x.run(720);
        lies("month 0 has no chart", x, 0, 7, 0);
        Check.due("way", x.told(0, 3), 0);
        x.run(1);
        lies("hour 720 is of month 1", x, 0, 7, 2);
        x.run(719);
        lies("all month 1", x, 0, 151, 0);
        TeaRace y = new TeaRace();
        y.home(159, 0);
        Seas.blow(y, 0, 1);
        y.wind(0, 23, 0);
        Seas.blow(y, 11, 2);
        y.ship(0, 7, 0);
        y.order(0, 0, 15, 0, 9, 1, 4);
        y.run(29);
        lies("nearly a cell", y, 0, 7, 58);
        y.run(1);
        lies("a calm cell", y, 0, 23, 0);
        for (int i = 0; i < 3; i++) {
            y.run(1963);
        }
        y.run(2000);
        lies("hour 7919", y, 0, 23, 0);
        y.run(2);
        lies("hour 7920 is of month 11", y, 0, 23, 4);
        y.run(719);
        lies("hour 8639 is of month 11, 8640 of month 0", y, 0, 151, 0);
        acrossMonthsInOneRun();
    }

    private static void acrossMonthsInOneRun() {
        TeaRace x = new TeaRace();
        x.home(159, 0);
        Seas.blow(x, 0, 1);
        Seas.blow(x, 1, 2);
        x.ship(0, 0, 0);
        x.order(0, 0, 15, 0, 9, 2, 2);
        x.order(0, 0, 15, 0, 9, 1, 6);
        // month 0: 1 wind from the north across way 6: 2 an hour; month 1: 2 across way 2: 4 an hour
        x.run(719);
        lies("before the month's last hour", x, 0, 0, 58);
        x.run(3);
        lies("at the sea's end, then in month 1", x, 0, 0, 8);
        Check.due("way", x.told(0, 3), 2);
        TeaRace y = new TeaRace();
        y.home(159, 0);
        Seas.blow(y, 0, 1);
        Seas.blow(y, 1, 2);
        y.ship(0, 0, 0);
        y.order(0, 0, 15, 0, 9, 2, 2);
        y.order(0, 0, 15, 0, 9, 1, 6);
        y.run(722);
        lies("all in one run", y, 0, 0, 8);
        Check.due("way", y.told(0, 3), 2);
    }

    private static void comingHome() {
        TeaRace x = new TeaRace();
        Seas.steamerEastOfHome(x, 3, 0);
        Seas.steamerEastOfHome(x, 1, 0);
        Seas.steamerEastOfHome(x, 2, 0);
        Check.due("run(7)", x.run(7), 0);
        Check.due("run(1)", x.run(1), 1);
        Check.due("told(1, 4)", x.told(1, 4), 7);
        Check.due("told(0, 4)", x.told(0, 4), -9);
        Check.due("told(0, 5)", x.told(0, 5), -9);
        Check.due("run(15)", x.run(15), 2);
        Check.due("count(4)", x.count(4), 3);
        Check.due("told(0, 4)", x.told(0, 4), 22);
        Check.due("told(2, 4)", x.told(2, 4), 14);
        Check.due("run(2000)", x.run(2000), 0);
        lies("it goes no more", x, 0, 0, 4);
        Check.due("told(0, 4) stays", x.told(0, 4), 22);
        Check.due("told(0, 5) stays", x.told(0, 5), 24);
    }

    /** Who lies at HOME from the first has not come there; who leaves it and comes back has. */
    private static void notComingHome() {
        TeaRace x = new TeaRace();
        x.ship(2, 0, 0);
        x.ship(2, 0, 0);
        x.order(0, 0, 0, 0, 0, 0, 2);
        x.order(0, 1, 1, 0, 0, 0, 6);
        Seas.steer(x, 1, 0);
        Check.due("run(0)", x.run(0), 0);
        Check.due("run(8)", x.run(8), 0);
        Check.due("told(0, 4)", x.told(0, 4), -9);
        Check.due("run(7) back", x.run(7), 1);
        Check.due("told(0, 4)", x.told(0, 4), 14);
        Check.due("told(0, 3) is asked at HOME", x.told(0, 3), 2);
        Check.due("told(1, 4)", x.told(1, 4), -9);
        Check.due("first()", x.first(), 0);
    }

    private static void gate() {
        for (int g = 0; g < 24; g++) {
            TeaRace x = new TeaRace();
            x.home(0, g);
            for (int cells = 1; cells <= 6; cells++) {
                Seas.steamerEastOfHome(x, cells, 0);
            }
            x.run(100);
            for (int ship = 0; ship < 6; ship++) {
                int entry = x.told(ship, 4);
                for (int tried = 0; tried < 24 && (entry - g + 24) % 24 > 5; tried++) {
                    entry++;
                }
                Check.due("gate " + g + ", told(" + ship + ", 5)", x.told(ship, 5), entry);
            }
        }
    }

    private static void firstByEntry() {
        TeaRace x = new TeaRace();
        Check.due("first() of none", x.first(), -9);
        x.home(0, 20);
        Seas.steamerEastOfHome(x, 4, 0);
        Seas.steamerEastOfHome(x, 3, 0);
        Check.due("first() of none HOME", x.first(), -9);
        x.run(23);
        Check.due("first() of one HOME", x.first(), 1);
        x.run(20);
        Check.due("told(0, 5)", x.told(0, 5), 44);
        Check.due("told(1, 5)", x.told(1, 5), 22);
        Check.due("first() by ENTRY", x.first(), 1);
    }

    private static void firstOfLikeOnes() {
        TeaRace x = new TeaRace();
        x.home(0, 12);
        Seas.steamerEastOfHome(x, 2, 0);
        Seas.steamerEastOfHome(x, 1, 0);
        Seas.steamerEastOfHome(x, 1, 0);
        x.run(8);
        Check.due("first() of like ones", x.first(), 1);
        x.run(30);
        Check.due("told(0, 5)", x.told(0, 5), 14);
        Check.due("told(1, 5)", x.told(1, 5), 12);
        Check.due("first()", x.first(), 1);
        TeaRace y = new TeaRace();
        y.home(0, 16);
        Seas.steamerEastOfHome(y, 2, 0);
        Seas.steamerEastOfHome(y, 1, 0);
        y.run(38);
        Check.due("told(0, 5)", y.told(0, 5), 16);
        Check.due("told(1, 5)", y.told(1, 5), 16);
        Check.due("first() is the earliest HOME of one ENTRY", y.first(), 1);
    }

    private static void leastOfBadNumbers() {
        TeaRace x = new TeaRace();
        x.ship(2, 0, 0);
        x.land(7, true);
        Check.due("least(1, 0, 0, 0)", x.least(1, 0, 0, 0), -1);
        Check.due("least(-1, 0, 0, 0)", x.least(-1, 0, 0, 0), -1);
        Check.due("least(0, -1, 0, 0)", x.least(0, -1, 0, 0), -1);
        Check.due("least(0, 160, 0, 0)", x.least(0, 160, 0, 0), -1);
        Check.due("least(0, 0, -1, 0)", x.least(0, 0, -1, 0), -1);
        Check.due("least(0, 0, 160, 0)", x.least(0, 0, 160, 0), -1);
        Check.due("least(0, 7, 0, 0) from land", x.least(0, 7, 0, 0), -1);
        Check.due("least(0, 0, 7, 0) to land", x.least(0, 0, 7, 0), -1);
        Check.due("least(0, 7, 7, 0) on land", x.least(0, 7, 7, 0), -1);
        Check.due("least(0, 0, 0, -1)", x.least(0, 0, 0, -1), -1);
        Check.due("least(0, 0, 0, 98001)", x.least(0, 0, 0, 98001), -1);
        Check.due("least(0, 0, 0, 98000)", x.least(0, 0, 0, 98000), 0);
        Check.due("least(0, 159, 0, 98000)", x.least(0, 159, 0, 98000), 9 * 11 + 6 * 8);
    }

    private static void leastOverTheSea() {
        TeaRace x = new TeaRace();
        x.ship(2, 0, 0);
        x.ship(0, 0, 0);
        Check.due("to itself, without any wind", x.least(1, 80, 80, 0), 0);
        Check.due("without any wind", x.least(1, 80, 81, 0), -9);
        Check.due("a cell", x.least(0, 80, 81, 0), 8);
        Check.due("two cells: GONE is 0 in each", x.least(0, 80, 82, 0), 16);
        Check.due("slanting", x.least(0, 80, 97, 0), 11);
        Check.due("a knight's way", x.least(0, 80, 98, 0), 19);
        x.run(5);
        x.order(0, 0, 15, 0, 9, 0, 4);
        Check.due("whatever its cell, GONE and ORDERS", x.least(0, 80, 81, 3), 8);
        for (int row = 0; row < 9; row++) {
            x.land(16 * row + 8, true);
        }
        Check.due("round the land", x.least(0, 7, 9, 0), 2 * 11 + 16 * 8);
        x.land(152, true);
        Check.due("no way round", x.least(0, 7, 9, 0), -9);
        x.foul(0, 8);
        Check.due("too foul to go", x.least(0, 0, 1, 0), -9);
        x.foul(0, 7);
        Check.due("foul", x.least(0, 0, 1, 0), 60);
    }

    private static void leastAgainstTheWind() {
        TeaRace x = new TeaRace();
        x.ship(0, 16, 0);
        x.ship(1, 16, 0);
        Seas.blow(x, 0, 25);
        // wind from the east with 5: north-east and south-east go by 5 (17 hours), north and south by 10 (6)
        Check.due("a cell to windward", x.least(0, 16, 17, 0), 17 + 6);
        Check.due("two cells to windward", x.least(0, 16, 18, 0), 34);
        Check.due("a clipper across the wind", x.least(1, 16, 17, 0), 17 + 4);
        for (int cell = 0; cell < 160; cell++) {
            if (cell != 16 && cell != 17) {
                x.land(cell, true);
            }
        }
        Check.due("to windward alone", x.least(0, 16, 17, 0), -9);
        Check.due("before the wind", x.least(0, 17, 16, 0), 6);
    }

    private static void leastThroughMonths() {
        TeaRace x = new TeaRace();
        x.ship(0, 0, 0);
        Seas.blow(x, 3, 1);
        // the wind of month 3 begins at hour 2160 and drives a ship over 60 in 30 hours (20 with n 3)
        Check.due("from calm into wind", x.least(0, 80, 96, 2159), 31);
        Check.due("2000 hours", x.least(0, 80, 96, 190), 2000);
        Check.due("2001 hours", x.least(0, 80, 96, 189), -9);
        Check.due("from wind into calm", x.least(0, 80, 96, 2850), 30);
        Check.due("from wind into calm, too late", x.least(0, 80, 96, 2851), -9);
        Seas.blow(x, 4, 2);
        Check.due("partly in the next month", x.least(0, 80, 96, 2860), 20 + 5);
        Check.due("a year later", x.least(0, 80, 96, 8640 + 2860), 20 + 5);
        x.tear(3);
        Check.due("a torn chart", x.least(0, 80, 96, 2160), 735);
    }
}

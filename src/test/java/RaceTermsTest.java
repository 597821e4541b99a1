/** The Terms, part 2: HOME, the dock, the first, and the least hours, sentence by sentence. */
public final class RaceTermsTest {
    private static final String RACE = "2 A RACE";

    public static void main(String[] args) {
        liesFromAnHourOn();
        isHomeInThatHour();
        goesNoMore();
        comesThere();
        homeBetweenTwoMoves();
        dock();
        dockFarOn();
        firstByEntry();
        firstByHome();
        firstByNumber();
        leastOverAllRows();
        leastInAnyWay();
        leastAsTold();
        leastIsAtMost();
        Document.close("RaceTermsTest");
    }

    private static void says(String words) {
        Document.says(RACE, words);
    }

    private static void liesFromAnHourOn() {
        says("each SHIP lies in a CELL from an HOUR on (GONE 0).");
        TeaRace x = new TeaRace();
        x.home(159, 0);
        x.ship(2, 87, 0);
        Check.lies("at first", x, 0, 87, 0);
        x.run(0);
        Check.lies("no hour later", x, 0, 87, 0);
        x.ship(2, 87, 0);
        Check.lies("another one in the same cell", x, 1, 87, 0);
        x.run(1);
        Check.lies("an hour later", x, 0, 87, 8);
        Check.lies("an hour later", x, 1, 87, 8);
    }

    private static void isHomeInThatHour() {
        says("HOME is a CELL; a SHIP that comes there is HOME in that HOUR,");
        for (int hour = 7; hour < 60; hour += 13) {
            TeaRace x = new TeaRace();
            int ship = Seas.steamerAtAnchor(x, 0);
            Seas.goTo(x, hour - 7);
            x.foul(ship, 0);
            Check.due("none is HOME", x.run(7), 0);
            Check.due("HOUR of one that is not", x.told(ship, 4), -9);
            Check.due("ENTRY of one that is not", x.told(ship, 5), -9);
            Check.due("count(4)", x.count(4), 0);
            Check.due("one is HOME", x.run(1), 1);
            Check.due("the HOUR", x.told(ship, 4), hour);
            Check.due("count(4)", x.count(4), 1);
        }
        for (int home = 0; home < 160; home += 53) {
            TeaRace x = new TeaRace();
            x.home(home, 0);
            x.ship(2, home == 0 ? 1 : home - 1, 0);
            Seas.steer(x, 0, home == 0 ? 6 : 2);
            Check.due("HOME " + home, x.run(8), 1);
            Check.lies("at HOME", x, 0, home, 4);
        }
    }

    private static void goesNoMore() {
        says("and goes no more.");
        TeaRace x = new TeaRace();
        Seas.steamerEastOfHome(x, 1, 0);
        Seas.steamerEastOfHome(x, 3, 0);
        Check.due("run(8)", x.run(8), 1);
        Check.lies("HOME", x, 0, 0, 4);
        Check.due("run(2000)", x.run(2000), 1);
        Check.lies("it goes no more", x, 0, 0, 4);
        Check.lies("nor does the other one", x, 1, 0, 4);
        Check.due("told(0, 4) stays", x.told(0, 4), 7);
        Check.due("told(0, 5) stays", x.told(0, 5), 24);
        Check.due("told(1, 4) stays", x.told(1, 4), 22);
        Check.due("count(4)", x.count(4), 2);
    }

    /** Who lies at HOME from the first, or stays there for the sea's end, has not come; who leaves it and comes back has. */
    private static void comesThere() {
        TeaRace x = new TeaRace();
        x.ship(2, 0, 0);
        x.ship(2, 0, 0);
        x.order(0, 0, 0, 0, 0, 0, 2);
        x.order(0, 1, 1, 0, 0, 0, 6);
        Seas.steer(x, 1, 0);
        Check.due("run(0)", x.run(0), 0);
        Check.due("run(8)", x.run(8), 0);
        Check.due("told(0, 4)", x.told(0, 4), -9);
        Check.due("run(7) back", x.run(7), 1);
        Check.due("told(0, 4)", x.told(0, 4), 14);
        Check.due("told(1, 4)", x.told(1, 4), -9);
        Check.due("first()", x.first(), 0);
        TeaRace y = new TeaRace();
        Seas.steamerEastOfHome(y, 1, 0);
        y.land(0, true);
        Check.due("HOME is land now: none comes there", y.run(100), 0);
        y.land(0, false);
        Check.due("HOME is land no more", y.run(8), 1);
    }

    private static void homeBetweenTwoMoves() {
        TeaRace y = Seas.racerBeforeTwoMoves(35);
        Check.due("one HOME", y.run(1), 1);
        Check.lies("HOME after the first move, with enough for a second", y, 0, 35, 65);
        Check.due("cells come to", y.mark(0, 3), 1);
        Check.due("none HOME", y.run(100), 0);
        Check.lies("it goes no more", y, 0, 35, 65);
        Check.due("HOUR of HOME", y.told(0, 4), 5);
    }

    private static void dock() {
        says("THE DOCK opens for it at the first HOUR from then on whose remainder by 24 is in the GATE"
            + " (from HOUR g to g + 5, of the day, round): that is its ENTRY.");
        for (int g = 0; g < 24; g++) {
            for (int hour = 24; hour < 48; hour++) {
                TeaRace x = new TeaRace();
                x.home(0, g);
                Seas.bringHome(x, hour, Seas.steamerAtAnchor(x, 0));
                int entry = hour;
                for (int tried = 0; tried < 24 && (entry - g + 24) % 24 > 5; tried++) {
                    entry++;
                }
                Check.due("gate " + g + ": HOUR", x.told(0, 4), hour);
                Check.due("gate " + g + ": ENTRY of HOUR " + hour, x.told(0, 5), entry);
            }
        }
        int[][] known = {{20, 19, 20}, {20, 20, 20}, {20, 23, 23}, {20, 24, 24}, {20, 25, 25}, {20, 26, 44}, {23, 28, 28},
            {23, 29, 47}, {18, 23, 23}, {18, 24, 42}, {19, 24, 24}, {19, 25, 43}};
        for (int[] k : known) {
            TeaRace x = new TeaRace();
            x.home(0, k[0]);
            Seas.bringHome(x, k[1], Seas.steamerAtAnchor(x, 0));
            Check.due("gate " + k[0] + ": ENTRY of HOUR " + k[1], x.told(0, 5), k[2]);
        }
    }

    private static void dockFarOn() {
        TeaRace x = new TeaRace();
        x.home(0, 9);
        Seas.bringHome(x, 99999, Seas.steamerAtAnchor(x, 3));
        Check.due("the last hour that goes by", x.told(0, 4), 99999);
        Check.due("the dock opens beyond the last HOUR", x.told(0, 5), 100017);
        Check.due("first()", x.first(), 0);
        Check.due("sale(0)", x.sale(0), 100);
    }

    /** Steamers at anchor, each HOME in its hour, in the order of the hours; the gate opens at g. */
    private static TeaRace homeAt(int g, int... hours) {
        TeaRace x = new TeaRace();
        x.home(0, g);
        for (int i = 0; i < hours.length; i++) {
            Seas.steamerAtAnchor(x, 0);
        }
        for (int hour = 7; hour < 200; hour++) {
            for (int ship = 0; ship < hours.length; ship++) {
                if (hours[ship] == hour) {
                    Seas.goTo(x, hour - 7);
                    x.foul(ship, 0);
                }
            }
        }
        x.run(8);
        return x;
    }

    private static void firstByEntry() {
        says("THE FIRST: of those HOME that with the earliest ENTRY,");
        Check.due("of none", new TeaRace().first(), -9);
        Check.due("of entries 72, 48, 24", homeAt(0, 57, 33, 9).first(), 2);
        Check.due("of entries 72, 24, 48", homeAt(0, 57, 9, 33).first(), 1);
        Check.due("of entries 24, 48, 72", homeAt(0, 9, 33, 57).first(), 0);
        Check.due("one of two is HOME", homeAt(0, 300, 9).first(), 1);
        Check.due("the other one of two is HOME", homeAt(0, 9, 300).first(), 0);
        Check.due("neither is HOME", homeAt(0, 300, 300).first(), -9);
        Check.due("entries a day's end apart, 24 and 23", homeAt(19, 24, 23).first(), 1);
    }

    private static void firstByHome() {
        says("of these the earliest HOME,");
        Check.due("ENTRY 24 of 23 and 22", homeAt(0, 23, 22).first(), 1);
        Check.due("ENTRY 24 of 23, 24 and 10", homeAt(0, 23, 24, 10).first(), 2);
        Check.due("ENTRY 24 of 10, 24 and 23", homeAt(0, 10, 24, 23).first(), 0);
        Check.due("ENTRY 48 of 30 and 47, 25 of 25", homeAt(0, 30, 47, 25).first(), 2);
    }

    private static void firstByNumber() {
        says("of these the least SHIP.");
        Check.due("three in hour 10", homeAt(0, 10, 10, 10).first(), 0);
        Check.due("the last two of three in hour 10", homeAt(0, 11, 10, 10).first(), 1);
        Check.due("eight in hour 26", homeAt(0, 27, 27, 27, 26, 27, 26, 26, 27).first(), 3);
    }

    private static void leastOverAllRows() {
        says("THE LEAST HOURS from a CELL to another one from an HOUR on for a SHIP: over all rows of CELLS and WAYS,");
        TeaRace x = new TeaRace();
        x.ship(2, 0, 0);
        Check.due("to itself", x.least(0, 80, 80, 0), 0);
        Check.due("a cell", x.least(0, 80, 81, 0), 8);
        Check.due("slanting", x.least(0, 80, 97, 0), 11);
        Check.due("a knight's way", x.least(0, 80, 98, 0), 19);
        Check.due("from corner to corner", x.least(0, 0, 159, 0), 9 * 11 + 6 * 8);
        Check.due("and back", x.least(0, 159, 0, 98000), 9 * 11 + 6 * 8);
        Check.due("from the other corner to its own", x.least(0, 144, 15, 0), 9 * 11 + 6 * 8);
        for (int row = 0; row < 9; row++) {
            x.land(16 * row + 8, true);
        }
        Check.due("round the land", x.least(0, 7, 9, 0), 2 * 11 + 16 * 8);
        x.land(152, true);
        Check.due("no way round", x.least(0, 7, 9, 0), -9);
        x.land(56, false);
        Check.due("through the gap", x.least(0, 7, 9, 0), 2 * 11 + 4 * 8);
    }

    private static void leastInAnyWay() {
        says("if in each CELL it may take any WAY (a new one only as it comes to a CELL; GONE is 0 in each),");
        TeaRace x = new TeaRace();
        x.ship(2, 0, 0);
        Check.due("two cells: 16 hours, not 15", x.least(0, 80, 82, 0), 16);
        x.run(5);
        x.order(0, 0, 15, 0, 9, 0, 4);
        Check.due("whatever its cell, GONE and ORDERS", x.least(0, 80, 81, 3), 8);
        TeaRace y = new TeaRace();
        y.ship(0, 16, 0);
        y.ship(1, 16, 0);
        Seas.blow(y, 0, 25);
        // wind from the east with 5: north-east and south-east go by 5 (17 hours), north and south by 10 (6)
        Check.due("a cell to windward", y.least(0, 16, 17, 0), 17 + 6);
        Check.due("two cells to windward", y.least(0, 16, 18, 0), 34);
        Check.due("a clipper, which goes across by 15 (4 hours)", y.least(1, 16, 17, 0), 17 + 4);
        turnsNoMore();
    }

    /** Two cells alone, one north of the other; the wind turns after a month, and a way taken is kept until the next cell. */
    private static void turnsNoMore() {
        TeaRace x = new TeaRace();
        x.ship(0, 0, 0);
        for (int cell = 0; cell < 160; cell++) {
            x.land(cell, cell != 16 && cell != 32);
        }
        Seas.blow(x, 0, 1);
        Seas.blow(x, 1, 41);
        Check.due("20 of 60 gone as the wind turns against it: a calm then", x.least(0, 16, 32, 710), -9);
        Check.due("60 of 60 gone in the last hour", x.least(0, 16, 32, 690), 30);
        Check.due("58 of 60 gone", x.least(0, 16, 32, 691), -9);
        Check.due("the other way as the wind turns", x.least(0, 32, 16, 710), 40);
    }

    private static void leastAsTold() {
        says("and goes as told;");
        TeaRace x = new TeaRace();
        x.ship(0, 0, 0);
        x.ship(2, 0, 0);
        Check.due("without any wind", x.least(0, 80, 81, 0), -9);
        x.foul(1, 8);
        Check.due("too foul to go", x.least(1, 0, 1, 0), -9);
        Check.due("too foul to go, but there", x.least(1, 1, 1, 0), 0);
        x.foul(1, 7);
        Check.due("one an hour", x.least(1, 0, 1, 0), 60);
        Check.due("one an hour, slanting", x.least(1, 0, 17, 0), 85);
        x.chart(0);
        x.wind(0, 80, 9);
        Check.due("by the wind of the cell left, 18 an hour", x.least(0, 80, 96, 0), 4);
        Check.due("no wind in the next one", x.least(0, 80, 112, 0), -9);
        x.wind(0, 96, 99);
        Check.due("a byte that is no wind in the next one", x.least(0, 80, 112, 0), -9);
        x.wind(0, 96, 19);
        Check.due("27 an hour in the next one", x.least(0, 80, 112, 0), 4 + 3);
        months();
    }

    private static void months() {
        TeaRace x = new TeaRace();
        x.ship(0, 0, 0);
        Seas.blow(x, 3, 1);
        Seas.blow(x, 4, 2);
        // 2 an hour southward in month 3, which begins at hour 2160, and 4 in month 4
        Check.due("from calm into wind", x.least(0, 80, 96, 2159), 31);
        Check.due("in the month's last hours", x.least(0, 80, 96, 2850), 30);
        Check.due("partly in the next month", x.least(0, 80, 96, 2860), 20 + 5);
        Check.due("in the month's last hour", x.least(0, 80, 96, 2879), 1 + 15);
        Check.due("a year later", x.least(0, 80, 96, 8640 + 2860), 20 + 5);
        x.tear(4);
        Check.due("from wind into a calm that lasts", x.least(0, 80, 96, 2851), -9);
        x.chart(0);
        x.tear(3);
        Check.due("without a chart", x.least(0, 80, 96, 2160), -9);
    }

    private static void leastIsAtMost() {
        says("at most 2000 HOURS, else NONE.");
        TeaRace x = new TeaRace();
        x.ship(0, 0, 0);
        Seas.blow(x, 3, 1);
        Check.due("1999 hours", x.least(0, 80, 96, 191), 1999);
        Check.due("2000 hours", x.least(0, 80, 96, 190), 2000);
        Check.due("2001 hours", x.least(0, 80, 96, 189), -9);
        serpent();
    }

    /**
     * One an hour: 60 hours for a straight step, 85 for a slanting one. Rows 0, 2 and 4 are sea, row 1 in its last
     * cell alone, row 3 in its first one: eastward to (14, 0), round by (15, 1), westward, round by (0, 3).
     */
    private static void serpent() {
        TeaRace x = new TeaRace();
        x.ship(2, 0, 0);
        x.foul(0, 7);
        for (int cell = 0; cell < 160; cell++) {
            x.land(cell, cell / 16 % 2 == 1 && cell != 31 && cell != 48);
        }
        int[][] hours = {{14, 840}, {31, 925}, {46, 1010}, {33, 1790}, {48, 1875}, {64, 1935}, {65, 1960}, {66, -9}, {67, -9},
            {79, -9}, {96, -9}};
        for (int[] h : hours) {
            Check.due("by row and row to cell " + h[0], x.least(0, 0, h[0], 0), h[1]);
            Check.due("and back", x.least(0, h[0], 0, 98000), h[1]);
        }
    }
}

/** The Terms, part 1: cells, ways, charts, hours, ships, their speeds, their going and their orders, sentence by sentence. */
public final class SeaTermsTest {
    private static final String SEA = "1 THE SEA";
    private static final int[] NEXT_TO_87 = {71, 72, 88, 104, 103, 102, 86, 70};

    public static void main(String[] args) {
        cells();
        land();
        ways();
        charts();
        windOfBytes();
        missingCharts();
        monthOfHour();
        monthInOneRun();
        hours();
        kinds();
        speedByEighths();
        speedByKind();
        foulness();
        need();
        windOfItsCell();
        restIsGone();
        severalInAnHour();
        severalWithWaysOfCells();
        noLandAhead();
        noSeaAhead();
        stopAfterMove();
        firstOrderThatFits();
        orderByCells();
        orderByStrength();
        ordersAtMost();
        noneFits();
        askedAtHours();
        askedInCells();
        goneStays();
        Document.close("SeaTermsTest");
    }

    private static void says(String words) {
        Document.says(SEA, words);
    }

    /** A ship of a kind alone in a cell, HOME far from it, under one order. */
    private static TeaRace alone(int kind, int cell, int way) {
        TeaRace x = new TeaRace();
        x.home(cell == 159 ? 0 : 159, 0);
        x.ship(kind, cell, 0);
        Seas.steer(x, 0, way);
        return x;
    }

    private static void cells() {
        says("has CELLS (x, y), x 0 .. 15, y 0 .. 9, number 16 y and x;");
        for (int cell = 0; cell < 160; cell++) {
            TeaRace x = new TeaRace();
            x.ship(0, 0, 0);
            x.sight(0, cell, 0);
            Check.due("cell " + cell + " from cell 0", x.distance(0, 0, false), Math.max(cell % 16, cell / 16));
        }
        TeaRace x = new TeaRace();
        Check.due("cell 159 is the last one", x.land(159, false), 0);
        Check.due("there is no cell 160", x.land(160, false), -1);
        Check.due("there is no cell -1", x.land(-1, false), -1);
    }

    private static void land() {
        says("LAND or not (none at first).");
        TeaRace x = new TeaRace();
        for (int cell = 0; cell < 160; cell++) {
            Check.due("land(" + cell + ")", x.land(cell, false), 0);
        }
        for (int ship = 0; ship < 8; ship++) {
            Check.due("a ship in any cell", x.ship(0, ship * 159 / 7, 0), ship);
        }
    }

    private static void ways() {
        says("WAYS 0 .. 7: north (y less), north-east, east, .., north-west, round.");
        for (int way = 0; way < 8; way++) {
            TeaRace x = alone(2, 87, way);
            x.run(11);
            Check.due("the cell in way " + way, x.told(0, 1), NEXT_TO_87[way]);
        }
        TeaRace x = alone(0, 0, 0);
        Check.due("ways 7 and 0 are one eighth apart", x.speed(0, 7, 0, 9), 9);
        Check.due("ways 0 and 7 are one eighth apart", x.speed(0, 0, 7, 9), 9);
        Check.due("ways 6 and 1 are three eighths apart", x.speed(0, 6, 1, 9), 27);
        Check.due("there is no way 8", x.speed(0, 8, 0, 9), -1);
        Check.due("there is no way -1", x.speed(0, -1, 0, 9), -1);
    }

    private static void charts() {
        says("CHARTS 0 .. 11, one for each MONTH, are rows of 160 bytes, or missing (at first):");
        TeaRace x = new TeaRace();
        for (int month = 0; month < 12; month++) {
            Check.due("tear(" + month + ") at first", x.tear(month), -3);
            Check.due("chart(" + month + ")", x.chart(month), 0);
            Check.due("its byte 0", x.wind(month, 0, month), 1000);
            Check.due("its byte 159", x.wind(month, 159, month), 1000);
            Check.due("no byte 160", x.wind(month, 160, month), -3);
        }
        for (int month = 0; month < 12; month++) {
            Check.due("byte 0 of month " + month, x.wind(month, 0, 0), 1000 + month);
        }
        Check.due("no chart 12", x.chart(12), -1);
        Check.due("no chart -1", x.chart(-1), -1);
    }

    /** One hour of a ship on way 0 in a cell of each byte, and of others whose orders tell the wind's strength. */
    private static void windOfBytes() {
        says("the WIND of each CELL: 10 times the WAY from which it blows, and its strength 0 .. 9"
            + " (a byte that is none such: calm, 0).");
        int[] perStrength = {0, 1, 2, 3, 2, 3, 2, 1};
        for (int number = -128; number < 128; number++) {
            boolean isWind = number >= 0 && number < 80;
            int strength = isWind ? number % 10 : 0;
            TeaRace x = new TeaRace();
            x.chart(0);
            x.wind(0, 87, number);
            for (int ship = 0; ship < 3; ship++) {
                x.ship(0, 87, 0);
            }
            for (int least = 7; least >= 1; least--) {
                x.order(1, 0, 15, 0, 9, least, least);
            }
            x.order(2, 0, 15, 0, 9, 9, 2);
            x.order(2, 0, 15, 0, 9, 8, 1);
            x.run(1);
            Check.due("gone by byte " + number, x.told(0, 2), isWind ? perStrength[number / 10] * strength : 0);
            Check.due("order by byte " + number, x.told(1, 3), Math.min(7, strength));
            Check.due("order of 8 or 9 by byte " + number, x.told(2, 3), Math.max(0, strength - 7));
        }
    }

    private static void missingCharts() {
        says("A CHART that is missing: calm everywhere.");
        TeaRace x = alone(0, 87, 4);
        Seas.blow(x, 0, 9);
        x.run(1);
        Check.lies("with a chart", x, 0, 87, 18);
        x.tear(0);
        x.order(0, 0, 15, 0, 9, 0, 2);
        x.run(2);
        Check.lies("without one", x, 0, 87, 18);
        Check.due("no hours by it", x.least(0, 87, 103, 0), -9);
        x.chart(0);
        x.run(2);
        Check.lies("with a calm one", x, 0, 87, 18);
        x.wind(0, 87, 9);
        x.run(1);
        Check.lies("with a wind", x, 0, 87, 36);
    }

    /** With wind in a month alone a ship goes in its hours; with wind in all the other months it doesn't. */
    private static void monthOfHour() {
        says("An HOUR belongs to MONTH (HOUR by 720) modulo 12.");
        int[][] monthOf = {{0, 0}, {719, 0}, {720, 1}, {1439, 1}, {1440, 2}, {2160, 3}, {7919, 10}, {7920, 11}, {8639, 11},
            {8640, 0}, {9359, 0}, {9360, 1}, {99359, 5}, {99360, 6}, {99999, 6}};
        for (int[] m : monthOf) {
            TeaRace x = alone(0, 7, 4);
            TeaRace y = alone(0, 7, 4);
            Seas.goTo(x, m[0]);
            Seas.goTo(y, m[0]);
            for (int month = 0; month < 12; month++) {
                Seas.blow(x, month, month == m[1] ? 1 : 0);
                Seas.blow(y, month, month == m[1] ? 0 : 1);
            }
            x.run(1);
            y.run(1);
            Check.lies("hour " + m[0] + " is of month " + m[1], x, 0, 7, 2);
            Check.lies("hour " + m[0] + " is of no other month", y, 0, 7, 0);
        }
    }

    /** Month 0: 1 wind from the north, across way 6, 2 an hour; month 1: strength 2, across way 2, 4 an hour. */
    private static void monthInOneRun() {
        int[] before = {719, 722, 0};
        for (int i = 0; i < 3; i++) {
            TeaRace x = new TeaRace();
            x.home(159, 0);
            Seas.blow(x, 0, 1);
            Seas.blow(x, 1, 2);
            x.ship(0, 0, 0);
            x.order(0, 0, 15, 0, 9, 2, 2);
            x.order(0, 0, 15, 0, 9, 1, 6);
            x.run(before[i]);
            x.run(722 - before[i]);
            Check.lies("at the sea's end, then in month 1", x, 0, 0, 8);
            Check.due("way", x.told(0, 3), 2);
        }
    }

    private static void hours() {
        says("HOURS 0 .. 100000.");
        TeaRace x = new TeaRace();
        x.ship(0, 0, 0);
        Check.due("the first HOUR", x.count(1), 0);
        Check.due("a sight at HOUR 0", x.sight(0, 0, 0), 1);
        Check.due("a sight at HOUR 100000", x.sight(0, 0, 100000), 2);
        Check.due("no HOUR 100001", x.distance(0, 100001, true), -1);
        Check.due("no HOUR -1", x.distance(0, -1, true), -1);
        Seas.goTo(x, 100000);
        Check.due("the last HOUR", x.count(1), 100000);
        Check.due("no hour more", x.run(1), -2);
    }

    private static void kinds() {
        says("SHIPS 0, 1, .. (8 at most) are of a KIND: 0 SHIP, 1 CLIPPER (a SHIP), 2 STEAMER (a SHIP), 3 RACER (a CLIPPER).");
        TeaRace x = new TeaRace();
        for (int ship = 0; ship < 8; ship++) {
            Check.due("ship", x.ship(ship % 4, ship, 0), ship);
        }
        Check.due("ship 8", x.ship(0, 0, 0), -2);
        for (int ship = 0; ship < 8; ship++) {
            Check.due("its kind", x.told(ship, 0), ship % 4);
            Check.holds("is a CLIPPER: " + ship, x.mark(ship, 1) == (ship % 2 == 1 ? 0 : -3));
            Check.holds("is a STEAMER: " + ship, x.mark(ship, 2) == (ship % 4 == 2 ? 8 : -3));
            Check.holds("is a RACER: " + ship, x.mark(ship, 3) == (ship % 4 == 3 ? 0 : -3));
            Check.due("every ship has chests", x.told(ship, 6), 0);
        }
        Check.due("no kind 4", x.ship(4, 0, 0), -1);
    }

    private static void speedByEighths() {
        says("SPEED of a SHIP in a WAY with a wind of strength w from a WAY: n, how many eighths of a turn lie between the WAY"
            + " and that from which the wind comes (0 .. 4): 0 for n 0; w for n 1; 2 w for n 2; 3 w for n 3; 2 w for n 4.");
        speeds(0, 0, 1, 2, 3, 2);
    }

    private static void speedByKind() {
        says("A CLIPPER has 1 w more for n 2 and 3;");
        speeds(1, 0, 1, 3, 4, 2);
        says("a RACER twice as much as that more;");
        speeds(3, 0, 1, 4, 5, 2);
        says("a STEAMER 8 always.");
        TeaRace x = alone(2, 0, 0);
        for (int i = 0; i < 64; i++) {
            Check.due("speed of a steamer in a calm", x.speed(0, i / 8, i % 8, 0), 8);
            Check.due("speed of a steamer in a gale", x.speed(0, i / 8, i % 8, 9), 8);
        }
    }

    private static void speeds(int kind, int... perStrength) {
        int[] apart = {0, 1, 2, 3, 4, 3, 2, 1};
        for (int i = 0; i < 640; i++) {
            TeaRace x = alone(kind, 0, 0);
            int way = i / 80;
            int from = i / 10 % 8;
            Check.due("speed of kind " + kind + " in way " + way + ", wind " + i % 80, x.speed(0, way, from, i % 10),
                perStrength[apart[(way - from + 8) % 8]] * (i % 10));
        }
    }

    private static void foulness() {
        says("Less its FOULNESS (0 .. 9; 0 at first), 0 at least.");
        int[] full = {6, 8, 8, 10};
        for (int kind = 0; kind < 4; kind++) {
            TeaRace x = alone(kind, 87, 0);
            Seas.blow(x, 0, 32);
            Check.due("kind " + kind + " at first", x.speed(0, 0, 3, 2), full[kind]);
            for (int foulness = 0; foulness <= 9; foulness++) {
                x.foul(0, foulness);
                int speed = Math.max(0, full[kind] - foulness);
                Check.due("kind " + kind + ", foulness " + foulness, x.speed(0, 0, 3, 2), speed);
                int gone = x.told(0, 2);
                x.run(1);
                Check.due("gone by it", x.told(0, 2), (gone + speed) % 60);
            }
            Check.due("foulness 10", x.foul(0, 10), -1);
        }
    }

    /** 8 an hour: 56 of 60 in 7 hours, 80 of 85 in 10; then 10 an hour: just 60 in 6. */
    private static void need() {
        says("A SHIP goes from CELL to CELL: it lies in one, with so much GONE of what it needs to the next one in its WAY:"
            + " 60 (north, east, south, west) or 85 (the others).");
        for (int way = 0; way < 8; way++) {
            TeaRace x = alone(2, 87, way);
            int hours = way % 2 == 0 ? 8 : 11;
            x.run(hours - 1);
            Check.lies("way " + way + ", nearly", x, 0, 87, 8 * (hours - 1));
            x.run(1);
            Check.lies("way " + way, x, 0, NEXT_TO_87[way], way % 2 == 0 ? 4 : 3);
            TeaRace just = alone(0, 87, way);
            Seas.blow(just, 0, 10 * ((way + 1) % 8) + 5);
            just.run(way % 2 == 0 ? 11 : 16);
            Check.lies("way " + way + ", 5 before", just, 0, 87, way % 2 == 0 ? 55 : 80);
            just.run(1);
            Check.lies("way " + way + ", just enough", just, 0, NEXT_TO_87[way], 0);
        }
        enoughByOne(0, 7, 60);
        enoughByOne(1, 10, 85);
    }

    /** A steamer that has gone 8 in each hour, then so much that it lacks one, lacks none, has one more. */
    private static void enoughByOne(int way, int hours, int need) {
        for (int over = -1; over <= 1; over++) {
            TeaRace x = alone(2, 87, way);
            x.run(hours);
            Check.lies("way " + way, x, 0, 87, 8 * hours);
            x.foul(0, 8 - (need + over - 8 * hours));
            x.run(1);
            Check.lies("way " + way + ", " + over + " over", x, 0, over < 0 ? 87 : NEXT_TO_87[way], over < 0 ? need - 1 : over);
        }
    }

    /** Wind from the north with 5, 1, then bytes that are none such, in the cells that a ship goes through southward. */
    private static void windOfItsCell() {
        says("Each HOUR SPEED is added to GONE (by the wind of its CELL in that HOUR);");
        TeaRace x = alone(0, 7, 4);
        x.chart(0);
        x.wind(0, 7, 5);
        x.wind(0, 23, 1);
        x.wind(0, 39, 85);
        x.wind(0, 55, -1);
        x.wind(0, 8, 9);
        // 10 an hour for 6 hours, then 2 an hour for 30
        x.run(5);
        Check.lies("strength 5", x, 0, 7, 50);
        x.run(2);
        Check.lies("strength 5, then 1", x, 0, 23, 2);
        x.run(28);
        Check.lies("strength 1", x, 0, 23, 58);
        x.run(1);
        Check.lies("a byte that is no wind", x, 0, 39, 0);
        x.run(50);
        Check.lies("calm still", x, 0, 39, 0);
        x.wind(0, 39, 79);
        x.run(3);
        Check.lies("79 from the next hour on, into a byte below 0", x, 0, 55, 21);
    }

    private static void restIsGone() {
        says("as that is enough, it is in the next CELL and the rest is GONE there");
        TeaRace x = alone(3, 87, 0);
        Seas.blow(x, 0, 39);
        x.run(1);
        Check.lies("45 an hour", x, 0, 87, 45);
        x.run(1);
        Check.lies("90 of 60", x, 0, 71, 30);
        x.run(1);
        Check.lies("75 of 60", x, 0, 55, 15);
        x.run(1);
        Check.lies("60 of 60", x, 0, 39, 0);
        TeaRace y = alone(3, 87, 1);
        Seas.blow(y, 0, 49);
        y.run(2);
        Check.lies("90 of 85", y, 0, 72, 5);
    }

    private static void severalInAnHour() {
        says("(several times, if it is enough again;");
        TeaRace x = Seas.racerBeforeTwoMoves(159);
        Check.lies("80 of 85", x, 0, 34, 80);
        x.run(1);
        Check.lies("125 of 60", x, 0, 36, 5);
        Check.due("cells come to", x.mark(0, 3), 2);
        TeaRace just = Seas.racerBeforeTwoMoves(159);
        just.foul(0, 5);
        just.run(1);
        Check.lies("120 of 60", just, 0, 36, 0);
        TeaRace less = Seas.racerBeforeTwoMoves(159);
        less.foul(0, 6);
        less.run(1);
        Check.lies("119 of 60", less, 0, 35, 59);
        TeaRace calm = Seas.racerBeforeTwoMoves(159);
        calm.wind(0, 34, 9);
        calm.run(1);
        Check.lies("36 by the wind of the cell left, none by that come to", calm, 0, 35, 56);
    }

    private static void severalWithWaysOfCells() {
        says("with the WAY for that CELL).");
        TeaRace x = Seas.racerBeforeTwoMoves(159);
        x.wind(0, 35, 8);
        x.run(1);
        Check.lies("65 of the 85 needed in the second cell", x, 0, 35, 65);
        Check.due("the second cell's way", x.told(0, 3), 5);
        TeaRace y = new TeaRace();
        y.home(159, 0);
        Seas.blow(y, 0, 18);
        y.ship(3, 34, 0);
        y.order(0, 3, 3, 0, 9, 9, 4);
        y.order(0, 0, 15, 0, 9, 9, 2);
        y.order(0, 0, 15, 0, 9, 8, 5);
        y.run(5);
        Seas.blow(y, 0, 79);
        y.run(1);
        Check.lies("east, then south", y, 0, 51, 5);
        Check.due("the way", y.told(0, 3), 4);
    }

    private static void noLandAhead() {
        says("It does not go to LAND");
        for (int way = 0; way < 8; way++) {
            TeaRace x = alone(2, 87, way);
            x.land(NEXT_TO_87[way], true);
            x.land(87, true);
            int hours = way % 2 == 0 ? 8 : 11;
            x.run(hours - 1);
            Check.lies("before land", x, 0, 87, 8 * (hours - 1));
            x.run(1);
            Check.lies("at land", x, 0, 87, 0);
            x.land(NEXT_TO_87[way], false);
            x.run(hours);
            Check.lies("to a cell that is land no more", x, 0, NEXT_TO_87[way], way % 2 == 0 ? 4 : 3);
        }
    }

    private static void noSeaAhead() {
        says("or beyond THE SEA: where it would, as GONE is enough, GONE is 0 instead, and it stays.");
        int[] cells = {0, 15, 159, 144, 5, 5, 154, 154, 31, 31, 16, 16};
        int[][] ways = {{0, 1, 5, 6, 7}, {0, 1, 2, 3, 7}, {1, 2, 3, 4, 5}, {3, 4, 5, 6, 7}, {0, 1}, {7}, {3, 4}, {5},
            {1, 2}, {3}, {5, 6}, {7}};
        for (int i = 0; i < cells.length; i++) {
            for (int way : ways[i]) {
                TeaRace x = alone(2, cells[i], way);
                int hours = way % 2 == 0 ? 8 : 11;
                x.run(hours - 1);
                Check.lies("before the sea's end", x, 0, cells[i], 8 * (hours - 1));
                x.run(1);
                Check.lies("at the sea's end", x, 0, cells[i], 0);
                x.run(2);
                Check.lies("again", x, 0, cells[i], 16);
            }
        }
        TeaRace x = alone(3, 0, 0);
        Seas.blow(x, 0, 39);
        x.run(50);
        Check.due("staying is no coming to a cell", x.mark(0, 3), 0);
    }

    private static void stopAfterMove() {
        TeaRace x = Seas.racerBeforeTwoMoves(159);
        x.land(36, true);
        x.run(1);
        Check.lies("the second move ends at land: no rest of it is gone", x, 0, 35, 0);
        Check.due("cells come to", x.mark(0, 3), 1);
        TeaRace y = Seas.racerBeforeTwoMoves(159);
        y.land(35, true);
        y.run(1);
        Check.lies("the first move ends at land: 125 are no second one", y, 0, 34, 0);
    }

    private static void firstOrderThatFits() {
        says("in order; the first that fits the CELL in which it is tells its WAY:");
        for (int cell = 0; cell < 160; cell++) {
            TeaRace x = new TeaRace();
            Seas.blow(x, 0, 5);
            x.ship(0, cell, 0);
            x.order(0, 4, 6, 2, 3, 6, 1);
            x.order(0, 4, 6, 2, 3, 5, 3);
            x.order(0, 5, 7, 3, 3, 0, 5);
            boolean second = cell % 16 >= 4 && cell % 16 <= 6 && cell / 16 >= 2 && cell / 16 <= 3;
            boolean third = cell % 16 >= 5 && cell % 16 <= 7 && cell / 16 == 3;
            x.run(1);
            Check.due("the way told in cell " + cell, x.told(0, 3), second ? 3 : third ? 5 : 0);
        }
    }

    private static void orderByCells() {
        says("CELLS from x a to b and y c to d,");
        int[][] spans = {{0, 0, 0, 0}, {15, 15, 9, 9}, {3, 5, 2, 4}, {0, 15, 4, 4}, {7, 7, 0, 9}, {0, 15, 0, 9}};
        for (int[] s : spans) {
            for (int cell = 0; cell < 160; cell++) {
                TeaRace x = new TeaRace();
                x.ship(0, cell, 0);
                x.order(0, s[0], s[1], s[2], s[3], 0, 4);
                x.run(1);
                boolean fits = cell % 16 >= s[0] && cell % 16 <= s[1] && cell / 16 >= s[2] && cell / 16 <= s[3];
                String span = s[0] + " .. " + s[1] + ", " + s[2] + " .. " + s[3];
                Check.due("cell " + cell + " of " + span, x.told(0, 3), fits ? 4 : 0);
            }
        }
    }

    private static void orderByStrength() {
        says("and a wind there of strength at least s: WAY.");
        for (int i = 0; i < 100; i++) {
            TeaRace x = new TeaRace();
            x.chart(0);
            x.wind(0, 87, 70 + i / 10);
            x.wind(0, 86, 79);
            x.ship(0, 87, 0);
            x.order(0, 0, 15, 0, 9, i % 10, 7);
            x.run(1);
            Check.due("strength " + i / 10 + ", at least " + i % 10, x.told(0, 3), i / 10 >= i % 10 ? 7 : 0);
        }
    }

    private static void ordersAtMost() {
        says("ORDERS of a SHIP (20 at most):");
        TeaRace x = new TeaRace();
        x.ship(0, 0, 0);
        x.ship(0, 0, 0);
        for (int orders = 1; orders < 20; orders++) {
            Check.due("an order of another cell", x.order(0, 1, 1, 0, 0, 0, 1), orders);
        }
        Check.due("order 20", x.order(0, 0, 0, 0, 0, 0, 2), 20);
        Check.due("order 21", x.order(0, 0, 0, 0, 0, 0, 3), -2);
        Check.due("of another ship", x.order(1, 0, 0, 0, 0, 0, 4), 1);
        x.run(1);
        Check.due("the way by order 20", x.told(0, 3), 2);
        Check.due("the way of another ship", x.told(1, 3), 4);
    }

    private static void noneFits() {
        says("None fits: the WAY that it has (at first 0).");
        TeaRace x = new TeaRace();
        x.home(159, 0);
        x.ship(2, 87, 0);
        Check.due("at first", x.told(0, 3), 0);
        x.run(8);
        Check.lies("without orders", x, 0, 71, 4);
        Check.due("without orders", x.told(0, 3), 0);
        x.order(0, 7, 7, 4, 4, 0, 2);
        x.run(7);
        Check.lies("out of the order's cell", x, 0, 72, 0);
        Check.due("the way that it has", x.told(0, 3), 2);
        x.run(8);
        Check.lies("on", x, 0, 73, 4);
        x.order(0, 0, 15, 0, 9, 1, 5);
        x.run(1);
        Check.due("no wind, the way that it has", x.told(0, 3), 2);
    }

    private static void askedAtHours() {
        says("WAYS are asked anew at each HOUR's begin,");
        int[] hours = {0, 1, 719, 720, 721, 1440};
        for (int hour : hours) {
            TeaRace x = new TeaRace();
            x.home(159, 0);
            x.ship(0, 34, 0);
            for (int month = 0; month < 3; month++) {
                Seas.blow(x, month, 25);
            }
            x.order(0, 0, 15, 0, 9, 6, 3);
            x.order(0, 0, 15, 0, 9, 0, 2);
            Seas.goTo(x, hour);
            Check.due("the way before", x.told(0, 3), hour == 0 ? 0 : 2);
            for (int month = 0; month < 3; month++) {
                Seas.blow(x, month, 69);
            }
            x.run(0);
            Check.due("no HOUR has begun", x.told(0, 3), hour == 0 ? 0 : 2);
            x.run(1);
            Check.due("as HOUR " + hour + " has begun", x.told(0, 3), 3);
            Check.lies("by the way just asked", x, 0, 34, 27);
        }
        Check.due("an order alone asks no way", alone(0, 34, 2).told(0, 3), 0);
    }

    private static void askedInCells() {
        says("and in each CELL that it comes to");
        TeaRace x = new TeaRace();
        x.home(159, 0);
        x.ship(2, 87, 0);
        x.order(0, 7, 7, 5, 5, 0, 2);
        x.order(0, 8, 8, 5, 5, 0, 0);
        x.run(7);
        Check.due("in its cell", x.told(0, 3), 2);
        x.run(1);
        Check.lies("come to the next cell", x, 0, 88, 4);
        Check.due("in the hour in which it came to it", x.told(0, 3), 0);
        x.run(7);
        Check.lies("come to a third cell", x, 0, 72, 0);
        Check.due("none fits there", x.told(0, 3), 0);
        TeaRace y = new TeaRace();
        y.home(88, 0);
        y.ship(2, 87, 0);
        y.order(0, 7, 7, 5, 5, 0, 2);
        y.order(0, 8, 8, 5, 5, 0, 4);
        y.run(8);
        Check.due("HOME is a cell that it comes to", y.told(0, 3), 4);
    }

    private static void goneStays() {
        says("(GONE stays, whatever WAY is told).");
        TeaRace x = new TeaRace();
        x.home(159, 0);
        x.chart(0);
        x.ship(2, 87, 0);
        x.order(0, 0, 15, 0, 9, 5, 4);
        x.order(0, 0, 15, 0, 9, 4, 3);
        x.order(0, 0, 15, 0, 9, 0, 2);
        x.run(5);
        Check.lies("east", x, 0, 87, 40);
        x.wind(0, 87, 34);
        x.run(5);
        Check.due("way", x.told(0, 3), 3);
        Check.lies("south-east", x, 0, 87, 80);
        x.foul(0, 9);
        x.run(3);
        Check.lies("too foul to go", x, 0, 87, 80);
        x.wind(0, 87, 35);
        x.run(1);
        Check.lies("80 are enough southward", x, 0, 103, 20);
        Check.due("way", x.told(0, 3), 2);
    }
}

/** The Terms, part 3: sights, who is surely ahead, charters, and the market, sentence by sentence. */
public final class LogTermsTest {
    private static final String LOGS = "3 LOGS";

    public static void main(String[] args) {
        sights();
        sightsAtMost();
        sightsInOrder();
        nearerToHome();
        seenBeforeAndAfter();
        least();
        leastIsTheGreater();
        most();
        nearestSights();
        sightJustThen();
        surelyAhead();
        freight();
        priceAtFirst();
        fallsByHundreds();
        cameInBefore();
        notBelowOne();
        allChests();
        Document.close("LogTermsTest");
    }

    private static void says(String words) {
        Document.says(LOGS, words);
    }

    private static void distances(String when, TeaRace x, int hour, int least, int most) {
        Check.due(when + ": LEAST at " + hour, x.distance(0, hour, false), least);
        Check.due(when + ": MOST at " + hour, x.distance(0, hour, true), most);
    }

    /** A fleet with HOME in cell 0, and sights of ship 0: cells and hours in turn. */
    private static TeaRace seen(int... cellsAndHours) {
        TeaRace x = new TeaRace();
        x.ship(0, 0, 0);
        x.ship(0, 0, 0);
        x.ship(0, 0, 0);
        see(x, 0, cellsAndHours);
        return x;
    }

    private static TeaRace see(TeaRace x, int ship, int... cellsAndHours) {
        for (int i = 0; i + 1 < cellsAndHours.length; i += 2) {
            x.sight(ship, cellsAndHours[i], cellsAndHours[i + 1]);
        }
        return x;
    }

    private static void sights() {
        says("SIGHTS of a SHIP: a CELL at an HOUR");
        TeaRace x = seen();
        x.land(3, true);
        Check.due("where it is not", x.sight(0, 159, 7), 1);
        Check.due("on land, at an HOUR that has not come", x.sight(0, 3, 90000), 2);
        Check.due("of another ship at the same HOUR", x.sight(1, 3, 7), 3);
        distances("seen in cell 159", x, 7, 15, 15);
        distances("seen in cell 3", x, 90000, 3, 3);
        x.run(100);
        Check.due("at an HOUR that has gone by", x.sight(1, 0, 8), 4);
        Check.due("it lies where it lay", x.told(0, 1), 0);
    }

    private static void sightsAtMost() {
        says("(60 at most of all;");
        TeaRace x = seen();
        for (int i = 0; i < 60; i++) {
            Check.due("sight", x.sight(i % 3, i, i), i + 1);
        }
        for (int ship = 0; ship < 3; ship++) {
            Check.due("a sight more of ship " + ship, x.sight(ship, 0, 100), -2);
        }
        Check.due("count(3)", x.count(3), 60);
        TeaRace y = seen();
        for (int i = 0; i < 60; i++) {
            Check.due("sight of one ship", y.sight(0, i, i), i + 1);
        }
        Check.due("a sight more of another ship", y.sight(1, 0, 100), -2);
        distances("the last one", y, 59, 11, 11);
        distances("none more", y, 60, -9, -9);
    }

    private static void sightsInOrder() {
        says("those of one SHIP each later than the one before).");
        TeaRace x = seen(5, 7);
        Check.due("in the same HOUR", x.sight(0, 6, 7), -1);
        Check.due("in the same HOUR and cell", x.sight(0, 5, 7), -1);
        Check.due("an HOUR before", x.sight(0, 6, 6), -1);
        Check.due("an HOUR later", x.sight(0, 6, 8), 2);
        Check.due("between the two", x.sight(0, 6, 7), -1);
        Check.due("another ship before them", x.sight(1, 6, 0), 3);
        Check.due("before its first one", x.sight(0, 6, 0), -1);
    }

    private static void nearerToHome() {
        says("SURE is between two SHIPS at an HOUR who is nearer to HOME (by the greater of how far x and y are apart),");
        for (int home = 0; home < 160; home += 31) {
            for (int cell = 0; cell < 160; cell++) {
                TeaRace x = new TeaRace();
                x.home(home, 0);
                x.ship(0, 0, 0);
                x.sight(0, cell, 5);
                int columns = Math.abs(cell % 16 - home % 16);
                int rows = Math.abs(cell / 16 - home / 16);
                int far = columns > rows ? columns : rows;
                distances("cell " + cell + " from " + home, x, 5, far, far);
            }
        }
        TeaRace x = seen(100, 0);
        distances("6 rows and 4 columns", x, 0, 6, 6);
        x.home(100, 0);
        distances("at HOME", x, 0, 0, 0);
        see(x, 1, 101, 0);
        Check.due("ahead(0, 1, 0)", x.ahead(0, 1, 0), 0);
    }

    private static void seenBeforeAndAfter() {
        says("if each has a SIGHT then or before and one then or later:");
        TeaRace x = seen();
        distances("no sights", x, 0, -9, -9);
        see(x, 0, 3, 10);
        see(x, 1, 4, 10, 4, 12);
        int[] due = {-9, 0, -9};
        for (int hour = 9; hour <= 11; hour++) {
            Check.due("one has one sight: ahead(0, 1, " + hour + ")", x.ahead(0, 1, hour), due[hour - 9]);
            Check.due("one has one sight: ahead(1, 0, " + hour + ")", x.ahead(1, 0, hour), due[hour - 9] == 0 ? 1 : -9);
        }
        see(x, 0, 3, 12);
        Check.due("both have two: ahead(0, 1, 9)", x.ahead(0, 1, 9), -9);
        Check.due("both have two: ahead(0, 1, 11)", x.ahead(0, 1, 11), 2);
        Check.due("both have two: ahead(0, 1, 12)", x.ahead(0, 1, 12), 0);
        Check.due("both have two: ahead(0, 1, 13)", x.ahead(0, 1, 13), -9);
        Check.due("the third has none", x.ahead(0, 2, 11), -9);
    }

    private static void least() {
        says("its distance is no less than that of the first of these SIGHTS less the HOURS between, nor than that of the other"
            + " one less the HOURS between (nor than 0):");
        TeaRace x = seen(10, 100, 0, 200);
        int[] byFirst = {10, 9, 8, 7, 6, 5, 4, 3, 2, 1, 0, 0, 0};
        for (int i = 0; i < byFirst.length; i++) {
            Check.due("less " + i + " hours since", x.distance(0, 100 + i, false), byFirst[i]);
        }
        TeaRace y = seen(0, 100, 5, 200);
        int[] byOther = {5, 4, 3, 2, 1, 0, 0};
        for (int i = 0; i < byOther.length; i++) {
            Check.due("less " + i + " hours until", y.distance(0, 200 - i, false), byOther[i]);
        }
        Check.due("no less than 0", seen(15, 0, 15, 100000).distance(0, 50000, false), 0);
    }

    private static void leastIsTheGreater() {
        says("the greater of these is its LEAST;");
        Check.due("8 and 7", seen(10, 100, 9, 104).distance(0, 102, false), 8);
        Check.due("7 and 8", seen(9, 100, 10, 104).distance(0, 102, false), 8);
        Check.due("8 and 8", seen(10, 100, 10, 104).distance(0, 102, false), 8);
        Check.due("0 and -1", seen(2, 100, 1, 104).distance(0, 102, false), 0);
        Check.due("-1 and -2", seen(1, 100, 0, 104).distance(0, 102, false), 0);
        Check.due("-1 and 1", seen(1, 100, 3, 104).distance(0, 102, false), 1);
    }

    private static void most() {
        says("likewise, with the HOURS more, the lesser is its MOST.");
        Check.due("12 and 11", seen(10, 100, 9, 104).distance(0, 102, true), 11);
        Check.due("11 and 12", seen(9, 100, 10, 104).distance(0, 102, true), 11);
        Check.due("11 and 13", seen(10, 100, 10, 104).distance(0, 101, true), 11);
        Check.due("13 and 11", seen(10, 100, 10, 104).distance(0, 103, true), 11);
        Check.due("more than the sea is wide", seen(15, 0, 15, 100000).distance(0, 50000, true), 50015);
        Check.due("49999 and 50001", seen(0, 0, 0, 100000).distance(0, 49999, true), 49999);
    }

    /** Sights that no ship could make true: the nearest ones count, whatever the others say. */
    private static void nearestSights() {
        TeaRace x = seen(0, 10, 15, 12, 14, 16, 0, 18);
        distances("between the second and the third", x, 14, 13, 16);
        distances("between the first and the second", x, 11, 14, 1);
        distances("between the third and the fourth", x, 17, 13, 1);
    }

    private static void sightJustThen() {
        says("(Of a SIGHT just then both are its distance.)");
        TeaRace x = seen(10, 100, 4, 101, 15, 102);
        distances("the first sight", x, 100, 10, 10);
        distances("between two", x, 101, 4, 4);
        distances("the last sight", x, 102, 15, 15);
        distances("the only sight, at HOUR 0", seen(7, 0), 0, 7, 7);
        distances("the only sight, at HOUR 100000", seen(7, 100000), 100000, 7, 7);
    }

    private static void surelyAhead() {
        says("One SHIP is surely ahead, if its MOST is less than the other's LEAST.");
        TeaRace x = seen(4, 0, 4, 2);
        see(x, 1, 6, 0, 6, 2);
        see(x, 2, 7, 0, 7, 2);
        Check.due("MOST 5, LEAST 5", x.ahead(0, 1, 1), 2);
        Check.due("LEAST 5, MOST 5", x.ahead(1, 0, 1), 2);
        Check.due("MOST 5, LEAST 6", x.ahead(0, 2, 1), 0);
        Check.due("LEAST 6, MOST 5", x.ahead(2, 0, 1), 1);
        Check.due("just then 4 and 6", x.ahead(0, 1, 2), 0);
        Check.due("just then 6 and 4", x.ahead(1, 0, 2), 1);
        TeaRace like = see(seen(7, 3), 1, 112, 3);
        Check.due("like distances", like.ahead(0, 1, 3), 2);
    }

    private static void freight() {
        says("CHARTERS: FREIGHT of a SHIP: chests times a rate, and a PREMIUM for THE FIRST.");
        TeaRace x = Seas.allHome(10, 20, 0);
        x.charter(0, 3, 70);
        x.charter(1, 5, 80);
        x.charter(2, 1000, 90);
        Check.due("THE FIRST", x.first(), 0);
        Check.due("of THE FIRST", x.freight(0), 100);
        Check.due("of the second", x.freight(1), 100);
        Check.due("of no chests", x.freight(2), 0);
        Check.due("of no chests, THE FIRST", premiumAlone(), 100000);
        Check.due("of the most", most(0), 20100000);
        Check.due("of the most, not THE FIRST", most(1), 20000000);
    }

    private static int premiumAlone() {
        TeaRace x = Seas.allHome(0);
        x.charter(0, 1000, 100000);
        return x.freight(0);
    }

    private static int most(int ship) {
        TeaRace x = Seas.allHome(20000, 20000);
        x.charter(ship, 1000, 100000);
        return x.freight(ship);
    }

    private static void priceAtFirst() {
        says("THE MARKET: price p at first (p 100, f 1, if not told otherwise);");
        TeaRace x = Seas.allHome(100, 1);
        Check.due("sale(0)", x.sale(0), 100);
        Check.due("sale(1)", x.sale(1), 99);
        x.market(50, 4);
        Check.due("sale(0) told otherwise", x.sale(0), 50);
        Check.due("sale(1) told otherwise", x.sale(1), 46);
    }

    private static void fallsByHundreds() {
        says("it falls by f for each 100 chests (begun) that came in before");
        int[] before = {0, 1, 99, 100, 101, 199, 200, 201, 899, 900, 901, 20000};
        int[] price = {500, 495, 495, 495, 490, 490, 490, 485, 455, 455, 450, 1};
        for (int i = 0; i < before.length; i++) {
            TeaRace x = Seas.allHome(before[i], 3);
            x.market(500, before[i] == 20000 ? 3 : 5);
            Check.due("the price behind " + before[i], x.sale(1), price[i]);
        }
        Check.due("150 and 150 are three hundreds", Seas.allHome(150, 150, 1).sale(2), 97);
        Check.due("150 alone are two hundreds, whatever its own", Seas.allHome(150, 150, 1).sale(1), 98);
        Check.due("50 and 50 are one hundred", Seas.allHome(50, 50, 1).sale(2), 99);
        Check.due("50, 0 and 51 are two hundreds", Seas.allHome(50, 0, 51, 1).sale(3), 98);
        TeaRace x = Seas.allHome(20000, 3);
        x.market(10000, 0);
        Check.due("a market that doesn't fall", x.sale(1), 10000);
    }

    private static void cameInBefore() {
        says("(by ENTRIES, of like ones the lesser SHIP first),");
        // the gate opens at 16: both have ENTRY 16, though the second was HOME before the first
        TeaRace x = new TeaRace();
        x.home(0, 16);
        Seas.steamerEastOfHome(x, 2, 400);
        Seas.steamerEastOfHome(x, 1, 300);
        x.run(8);
        Check.due("alone", x.sale(1), 100);
        x.run(8);
        Check.due("told(0, 5)", x.told(0, 5), 16);
        Check.due("told(1, 5)", x.told(1, 5), 16);
        Check.due("the lesser ship first", x.sale(0), 100);
        Check.due("the other behind it", x.sale(1), 96);
        TeaRace y = new TeaRace();
        y.home(0, 9);
        Seas.steamerEastOfHome(y, 3, 400);
        Seas.steamerEastOfHome(y, 1, 300);
        Seas.steamerEastOfHome(y, 9, 20000);
        y.run(30);
        Check.due("told(0, 5)", y.told(0, 5), 33);
        Check.due("told(1, 5)", y.told(1, 5), 9);
        Check.due("the earlier ENTRY first", y.sale(1), 100);
        Check.due("the later ENTRY behind it", y.sale(0), 97);
    }

    private static void notBelowOne() {
        says("not below 1;");
        int[] fall = {48, 49, 50, 51, 1000};
        int[] price = {2, 1, 1, 1, 1};
        for (int i = 0; i < fall.length; i++) {
            TeaRace x = Seas.allHome(100, 3);
            x.market(50, fall[i]);
            Check.due("50 less " + fall[i], x.sale(1), price[i]);
        }
        TeaRace x = Seas.allHome(20000, 20000, 20000, 20000, 20000, 20000, 20000, 20000);
        x.market(1, 1000);
        Check.due("at the most chests and the greatest fall", x.sale(7), 1);
        x.market(10000, 7);
        Check.due("10000 less 7 times 1400", x.sale(7), 200);
    }

    private static void allChests() {
        says("a SHIP sells all its chests at the price at its ENTRY.");
        TeaRace x = Seas.allHome(250, 1000);
        x.market(10, 2);
        Check.due("sale(0)", x.sale(0), 10);
        Check.due("250 at 10", x.asked(), 2500);
        Check.due("sale(1)", x.sale(1), 4);
        Check.due("1000 at 4, though its own are ten hundreds", x.asked(), 4000);
        Check.due("sale(0) again: a sale takes no chests", x.sale(0), 10);
        Check.due("250 at 10", x.asked(), 2500);
        Check.due("its chests", x.told(0, 6), 250);
    }
}

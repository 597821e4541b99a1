/** Promises 21 to 26: charters, freights, and the market; each sentence has its tests. */
public final class MarketTest {
    public static void main(String[] args) {
        charter();
        charterOfBadNumbers();
        freight();
        freightOfBadNumbers();
        freightAtSea();
        market();
        marketOfBadNumbers();
        sale();
        saleOfBadNumbers();
        saleAtSea();
        meanPrice();
        meanPriceOfMost();
        meanPriceOfNoChests();
        asked();
        askedBefore();
        Document.close("MarketTest");
    }

    private static void charter() {
        Document.says(21, "The rate (0 .. 1000) for a chest and the PREMIUM (0 .. 100000) of a SHIP: 1.");
        TeaRace x = Seas.allHome(7, 5);
        Check.due("freight(0) by no charter", x.freight(0), 0);
        int[][] charters = {{1000, 100000, 107000}, {0, 100000, 100000}, {1000, 0, 7000}, {1, 1, 8}, {0, 0, 0}};
        for (int[] c : charters) {
            Check.due("charter(0, " + c[0] + ", " + c[1] + ")", x.charter(0, c[0], c[1]), 1);
            Check.due("freight(0) by it", x.freight(0), c[2]);
            Check.due("freight(1) by none", x.freight(1), 0);
        }
        TeaRace y = new TeaRace();
        Seas.steamerEastOfHome(y, 1, 3);
        Check.due("charter(0, 5, 6) at HOUR 0", y.charter(0, 5, 6), 1);
        y.run(8);
        Check.due("freight(0) by it", y.freight(0), 21);
    }

    private static void charterOfBadNumbers() {
        Document.says(21, "BAD.");
        Edges.ofNumber("charter of a ship", Seas::atFirst, 0, 3, (x, ship) -> x.charter(ship, 1, 1));
        Edges.ofNumber("charter of a rate", Seas::underWay, 0, 1000, (x, rate) -> x.charter(1, rate, 1));
        Edges.ofNumber("charter of a premium", Seas::underWay, 0, 100000, (x, premium) -> x.charter(1, 1, premium));
        Edges.bad("charter without ships", TeaRace::new, x -> x.charter(0, 0, 0));
    }

    private static void freight() {
        Document.says(22, "FREIGHT of a SHIP that is HOME.");
        TeaRace x = new TeaRace();
        Seas.steamerEastOfHome(x, 2, 20000);
        Seas.steamerEastOfHome(x, 1, 10);
        x.charter(0, 1000, 100000);
        x.charter(1, 3, 8);
        x.run(8);
        Check.due("freight(1) of the first", x.freight(1), 38);
        x.run(8);
        Check.due("freight(0) of the second", x.freight(0), 20000000);
        Check.due("freight(1) of the first still", x.freight(1), 38);
        x.charter(0, 0, 100000);
        Check.due("freight(0) without a rate", x.freight(0), 0);
        TeaRace y = Seas.allHome(20000);
        y.charter(0, 1000, 100000);
        Check.due("freight(0) of the most", y.freight(0), 20100000);
        // the dock opens at 14 for both; ship 1 was HOME before ship 0
        TeaRace z = new TeaRace();
        z.home(0, 14);
        Seas.steamerEastOfHome(z, 2, 1);
        Seas.steamerEastOfHome(z, 1, 1);
        z.charter(0, 0, 5);
        z.charter(1, 0, 6);
        z.run(15);
        Check.due("like entries: freight(0)", z.freight(0), 0);
        Check.due("like entries, HOME earlier: freight(1)", z.freight(1), 6);
    }

    private static void freightOfBadNumbers() {
        Document.says(22, "BAD;");
        Edges.ofNumber("freight of a ship", () -> Seas.allHome(1, 2, 3), 0, 2, TeaRace::freight);
        Edges.bad("freight without ships", TeaRace::new, x -> x.freight(0));
    }

    private static void freightAtSea() {
        Document.says(22, "STATE: it is not.");
        for (int s = 0; s < 4; s++) {
            int ship = s;
            Edges.refused("freight at first", Seas::atFirst, x -> x.freight(ship), Edges.STATE, Edges.NO_FINDING);
        }
        Edges.refused("freight at sea", Seas::underWay, x -> x.freight(0), Edges.STATE, Edges.NO_FINDING);
        Edges.taken("freight of one HOME", Seas::underWay, x -> x.freight(1));
        TeaRace x = new TeaRace();
        Seas.steamerEastOfHome(x, 1, 3);
        x.ship(0, 0, 3);
        x.run(7);
        Check.due("an hour before", x.freight(0), -4);
        x.run(1);
        Check.due("HOME", x.freight(0), 0);
        Check.due("one that lies at HOME from the first", x.freight(1), -4);
    }

    private static void market() {
        Document.says(23, "Price (1 .. 10000) and fall (0 .. 1000) of THE MARKET: 1.");
        TeaRace x = Seas.allHome(100, 1);
        int[][] markets = {{10000, 1000, 10000, 9000}, {1, 0, 1, 1}, {1, 1000, 1, 1}, {10000, 0, 10000, 10000}, {7, 1, 7, 6}};
        for (int[] m : markets) {
            Check.due("market(" + m[0] + ", " + m[1] + ")", x.market(m[0], m[1]), 1);
            Check.due("sale(0)", x.sale(0), m[2]);
            Check.due("sale(1)", x.sale(1), m[3]);
        }
        Check.due("market() of a new object", new TeaRace().market(1, 0), 1);
    }

    private static void marketOfBadNumbers() {
        Document.says(23, "BAD.");
        Edges.ofNumber("market of a price", Seas::atFirst, 1, 10000, (x, price) -> x.market(price, 5));
        Edges.ofNumber("market of a fall", Seas::underWay, 0, 1000, (x, fall) -> x.market(5, fall));
        Edges.bad("market of nothing", Seas::underWay, x -> x.market(0, 0));
    }

    private static void sale() {
        Document.says(24, "What a SHIP that is HOME gets for all its chests, told by asked(): the price.");
        TeaRace x = Seas.allHome(9, 250, 0, 1);
        int[] prices = {100, 99, 97, 97};
        int[] told = {900, 24750, 0, 97};
        for (int ship = 3; ship >= 0; ship--) {
            Check.due("sale(" + ship + ")", x.sale(ship), prices[ship]);
            Check.due("asked()", x.asked(), told[ship]);
        }
        TeaRace y = Seas.allHome(20000, 20000, 20000, 20000, 20000, 20000, 20000, 20000);
        y.market(10000, 0);
        Check.due("sale(7)", y.sale(7), 10000);
        Check.due("asked()", y.asked(), 200000000);
        y.market(10000, 1000);
        Check.due("sale(7) after a fall", y.sale(7), 1);
        Check.due("asked()", y.asked(), 20000);
        Check.due("finding()", y.finding(), 0);
    }

    private static void saleOfBadNumbers() {
        Document.says(24, "BAD;");
        Edges.ofNumber("sale of a ship", () -> Seas.allHome(1, 2, 3), 0, 2, TeaRace::sale);
        Edges.bad("sale without ships", TeaRace::new, x -> x.sale(0));
    }

    private static void saleAtSea() {
        Document.says(24, "STATE.");
        for (int s = 0; s < 4; s++) {
            int ship = s;
            Edges.refused("sale at first", Seas::atFirst, x -> x.sale(ship), Edges.STATE, Edges.NO_FINDING);
        }
        Edges.refused("sale at sea", Seas::underWay, x -> x.sale(3), Edges.STATE, Edges.NO_FINDING);
        TeaRace x = new TeaRace();
        Seas.steamerEastOfHome(x, 1, 3);
        x.ship(0, 0, 3);
        x.run(7);
        Check.due("an hour before", x.sale(0), -4);
        x.run(1);
        Check.due("HOME", x.sale(0), 100);
        Check.due("one that lies at HOME from the first", x.sale(1), -4);
    }

    private static void meanPrice() {
        Document.says(25, "All that SHIPS that are HOME get, by their chests, cut.");
        TeaRace x = new TeaRace();
        Seas.steamerEastOfHome(x, 1, 0);
        Seas.steamerEastOfHome(x, 2, 101);
        Seas.steamerEastOfHome(x, 3, 50);
        x.market(10, 3);
        x.run(16);
        Check.due("101 at 10, 50 at sea", x.meanPrice(), 10);
        x.run(8);
        Check.due("101 at 10 and 50 at 4: 1210 by 151", x.meanPrice(), 8);
        Check.due("asked() is told by sale() alone", x.asked(), 0);
        // prices fall from 10 by 3 or 2, so a mean is just whole, or one chest's price less
        int[][] means = {{1, 3, 3, 7}, {2, 6, 2, 8}, {10, 10, 4, 8}, {1, 1, 3, 8}, {1, 1, 1, 9}, {1, 0, 3, 10}, {3, 1, 4, 9},
            {4, 1, 5, 9}};
        for (int[] m : means) {
            TeaRace y = Seas.allHome(m[0], m[1]);
            y.market(10, m[2]);
            Check.due(m[0] + " at 10 and " + m[1] + " at " + (10 - m[2]), y.meanPrice(), m[3]);
        }
        Check.due("meanPrice() of the first market", Seas.allHome(100, 100).meanPrice(), 99);
    }

    private static void meanPriceOfMost() {
        TeaRace x = Seas.allHome(20000, 20000, 20000, 20000, 20000, 20000, 20000, 20000);
        x.market(10000, 0);
        Check.due("1600000000 by 160000", x.meanPrice(), 10000);
        x.market(10000, 1);
        Check.due("prices from 10000 to 8600", x.meanPrice(), 9300);
        x.market(10000, 1000);
        Check.due("20000 at 10000 and 140000 at 1", x.meanPrice(), 1250);
    }

    private static void meanPriceOfNoChests() {
        Document.says(25, "NOUGHT: no chests.");
        Edges.finds("meanPrice without ships", TeaRace::new, TeaRace::meanPrice, Edges.NOUGHT);
        Edges.finds("meanPrice of none HOME", Seas::atFirst, TeaRace::meanPrice, Edges.NOUGHT);
        Edges.finds("meanPrice of ships without chests", () -> Seas.allHome(0, 0), TeaRace::meanPrice, Edges.NOUGHT);
        Edges.taken("meanPrice of one chest", () -> Seas.allHome(0, 1), TeaRace::meanPrice);
        TeaRace x = new TeaRace();
        Seas.steamerEastOfHome(x, 1, 0);
        Seas.steamerEastOfHome(x, 2, 1);
        x.run(14);
        Check.due("one HOME without chests, one at sea", x.meanPrice(), -3);
        x.run(1);
        Check.due("both HOME", x.meanPrice(), 100);
        Check.due("findings(4)", x.findings(4), 1);
    }

    private static void asked() {
        Document.says(26, "What the latest sale() that was not refused told;");
        TeaRace x = new TeaRace();
        Seas.steamerEastOfHome(x, 1, 9);
        Seas.steamerEastOfHome(x, 9, 9);
        Seas.steamerEastOfHome(x, 2, 0);
        x.run(20);
        Check.due("sale(0)", x.sale(0), 100);
        Check.due("asked()", x.asked(), 900);
        Check.due("sale(1) at sea", x.sale(1), -4);
        Check.due("asked() stays", x.asked(), 900);
        Check.due("sale(3)", x.sale(3), -1);
        Check.due("asked() stays", x.asked(), 900);
        x.market(1, 1);
        x.meanPrice();
        x.freight(0);
        Check.due("asked() is what was told", x.asked(), 900);
        Check.due("sale(2)", x.sale(2), 1);
        Check.due("asked() of no chests", x.asked(), 0);
        Check.due("sale(0)", x.sale(0), 1);
        Check.due("asked()", x.asked(), 9);
    }

    private static void askedBefore() {
        Document.says(26, "0 before.");
        Check.due("asked() of a new object", new TeaRace().asked(), 0);
        TeaRace x = new TeaRace();
        Seas.steamerEastOfHome(x, 1, 9);
        x.sale(0);
        x.sale(1);
        Check.due("asked() after refused sales", x.asked(), 0);
        x.run(8);
        x.meanPrice();
        x.freight(0);
        Check.due("asked() as a ship is HOME", x.asked(), 0);
    }
}

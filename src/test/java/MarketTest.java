/** Promises 21 to 26: charters, freights, and the market. */
public final class MarketTest {
    public static void main(String[] args) {
        charter();
        freight();
        market();
        sale();
        saleByHundreds();
        saleOfLikeEntries();
        saleAtMost();
        meanPrice();
        meanPriceIsCut();
        asked();
        Check.close("MarketTest");
    }

    /** Steamers 1, 2, 3 .. cells from HOME with so many chests, all HOME; the gate opens at hour 7 each day. */
    private static TeaRace home(int... chests) {
        TeaRace x = new TeaRace();
        x.home(0, 7);
        for (int i = 0; i < chests.length; i++) {
            Seas.steamerEastOfHome(x, i + 1, chests[i]);
        }
        x.run(100);
        return x;
    }

    private static void charter() {
        TeaRace x = home(7, 5);
        Check.due("freight(0) by no charter", x.freight(0), 0);
        Check.due("charter(0, 1000, 100000)", x.charter(0, 1000, 100000), 1);
        Check.due("charter(0, 1001, 0)", x.charter(0, 1001, 0), -1);
        Check.due("charter(0, -1, 0)", x.charter(0, -1, 0), -1);
        Check.due("charter(0, 0, 100001)", x.charter(0, 0, 100001), -1);
        Check.due("charter(0, 0, -1)", x.charter(0, 0, -1), -1);
        Check.due("charter(2, 0, 0)", x.charter(2, 0, 0), -1);
        Check.due("charter(-1, 0, 0)", x.charter(-1, 0, 0), -1);
        Check.due("freight(0)", x.freight(0), 107000);
        Check.due("freight(1)", x.freight(1), 0);
        Check.due("charter(0, 0, 0)", x.charter(0, 0, 0), 1);
        Check.due("freight(0)", x.freight(0), 0);
    }

    private static void freight() {
        TeaRace x = new TeaRace();
        Seas.steamerEastOfHome(x, 2, 20000);
        Seas.steamerEastOfHome(x, 1, 10);
        x.charter(0, 1000, 100000);
        x.charter(1, 3, 8);
        Check.due("freight(0) at sea", x.freight(0), -4);
        Check.due("freight(2)", x.freight(2), -1);
        Check.due("freight(-1)", x.freight(-1), -1);
        x.run(8);
        Check.due("freight(1) of the first", x.freight(1), 38);
        Check.due("freight(0) at sea still", x.freight(0), -4);
        x.run(8);
        Check.due("freight(0) of the second", x.freight(0), 20000000);
        Check.due("freight(1) of the first", x.freight(1), 38);
        Check.due("finding()", x.finding(), 0);
        Check.due("freight(0) of the first", firstOfMuch(), 20100000);
    }

    private static int firstOfMuch() {
        TeaRace x = home(20000);
        x.charter(0, 1000, 100000);
        return x.freight(0);
    }

    private static void market() {
        TeaRace x = home(100, 1);
        Check.due("sale(0) at first", x.sale(0), 100);
        Check.due("sale(1) at first", x.sale(1), 99);
        Check.due("market(0, 5)", x.market(0, 5), -1);
        Check.due("market(-1, 5)", x.market(-1, 5), -1);
        Check.due("market(10001, 5)", x.market(10001, 5), -1);
        Check.due("market(5, -1)", x.market(5, -1), -1);
        Check.due("market(5, 1001)", x.market(5, 1001), -1);
        Check.due("sale(1) still", x.sale(1), 99);
        Check.due("market(10000, 1000)", x.market(10000, 1000), 1);
        Check.due("sale(0)", x.sale(0), 10000);
        Check.due("sale(1)", x.sale(1), 9000);
        Check.due("market(1, 0)", x.market(1, 0), 1);
        Check.due("sale(0)", x.sale(0), 1);
        Check.due("sale(1)", x.sale(1), 1);
        Check.due("market(7, 0)", x.market(7, 0), 1);
        Check.due("sale(1)", x.sale(1), 7);
    }

    private static void sale() {
        TeaRace x = new TeaRace();
        Seas.steamerEastOfHome(x, 1, 9);
        Check.due("sale(0) at sea", x.sale(0), -4);
        Check.due("sale(1)", x.sale(1), -1);
        Check.due("sale(-1)", x.sale(-1), -1);
        x.run(8);
        Check.due("sale(0)", x.sale(0), 100);
        Check.due("asked()", x.asked(), 900);
        Check.due("finding()", x.finding(), 0);
    }

    private static void saleByHundreds() {
        int[] before = {0, 1, 99, 100, 101, 200, 201, 899, 900, 901, 20000};
        int[] price = {50, 45, 45, 45, 40, 40, 35, 5, 5, 1, 1};
        for (int i = 0; i < before.length; i++) {
            TeaRace x = home(before[i], 3);
            x.market(50, 5);
            Check.due("sale(0)", x.sale(0), 50);
            Check.due("asked()", x.asked(), 50L * before[i]);
            Check.due("sale(1) behind " + before[i], x.sale(1), price[i]);
            Check.due("asked()", x.asked(), 3 * price[i]);
        }
        TeaRace x = home(150, 150, 1);
        Check.due("150 and 150 are three hundreds", x.sale(2), 97);
        Check.due("its own chests don't count", x.sale(1), 98);
    }

    private static void saleOfLikeEntries() {
        // the gate opens at 16: both have ENTRY 16, though the second was HOME before the first
        TeaRace x = new TeaRace();
        x.home(0, 16);
        Seas.steamerEastOfHome(x, 2, 400);
        Seas.steamerEastOfHome(x, 1, 300);
        x.run(8);
        Check.due("alone", x.sale(1), 100);
        x.run(8);
        Check.due("the lesser ship first", x.sale(0), 100);
        Check.due("the other behind it", x.sale(1), 96);
        // the gate opens at 7: the second has ENTRY 7, the first 14 of that day
        TeaRace y = new TeaRace();
        y.home(0, 9);
        Seas.steamerEastOfHome(y, 3, 400);
        Seas.steamerEastOfHome(y, 1, 300);
        y.run(30);
        Check.due("told(0, 5)", y.told(0, 5), 33);
        Check.due("told(1, 5)", y.told(1, 5), 9);
        Check.due("the earlier ENTRY first", y.sale(1), 100);
        Check.due("the later ENTRY behind it", y.sale(0), 97);
    }

    private static void saleAtMost() {
        TeaRace x = home(20000, 20000, 20000, 20000, 20000, 20000, 20000, 20000);
        x.market(10000, 0);
        Check.due("sale(7)", x.sale(7), 10000);
        Check.due("asked()", x.asked(), 200000000);
        Check.due("meanPrice()", x.meanPrice(), 10000);
        x.market(10000, 1000);
        Check.due("sale(7)", x.sale(7), 1);
        Check.due("asked()", x.asked(), 20000);
    }

    private static void meanPrice() {
        TeaRace x = new TeaRace();
        Check.due("meanPrice() without ships", x.meanPrice(), -3);
        Check.due("finding()", x.finding(), 4);
        Seas.steamerEastOfHome(x, 1, 0);
        Seas.steamerEastOfHome(x, 2, 101);
        Seas.steamerEastOfHome(x, 3, 50);
        Check.due("meanPrice() at sea", x.meanPrice(), -3);
        x.run(8);
        Check.due("meanPrice() of no chests", x.meanPrice(), -3);
        Check.due("findings(4)", x.findings(4), 3);
        x.market(10, 3);
        x.run(8);
        Check.due("meanPrice() of one", x.meanPrice(), 10);
        x.run(8);
        // 101 at 10 and 50 at 4: 1210 by 151
        Check.due("meanPrice() is cut", x.meanPrice(), 8);
        Check.due("findings(4)", x.findings(4), 3);
        Check.due("asked() is told by sale() alone", x.asked(), 0);
    }

    /** 1 at 10 and 3 at 7 are 31, one less than four times 8. */
    private static void meanPriceIsCut() {
        TeaRace x = home(1, 3);
        x.market(10, 3);
        Check.due("meanPrice() of 31 by 4", x.meanPrice(), 7);
        TeaRace y = home(2, 6);
        y.market(10, 2);
        Check.due("meanPrice() of 68 by 8", y.meanPrice(), 8);
        TeaRace z = home(10, 0, 10);
        z.market(9, 4);
        Check.due("meanPrice() of 140 by 20", z.meanPrice(), 7);
    }

    private static void asked() {
        TeaRace x = new TeaRace();
        Seas.steamerEastOfHome(x, 1, 9);
        Seas.steamerEastOfHome(x, 9, 9);
        Seas.steamerEastOfHome(x, 2, 0);
        Check.due("asked() before", x.asked(), 0);
        x.sale(0);
        Check.due("asked() after a refused sale", x.asked(), 0);
        x.run(20);
        x.sale(0);
        Check.due("asked()", x.asked(), 900);
        Check.due("sale(1) at sea", x.sale(1), -4);
        Check.due("sale(3)", x.sale(3), -1);
        Check.due("asked() stays", x.asked(), 900);
        x.market(1, 1);
        Check.due("asked() is what was told", x.asked(), 900);
        x.sale(2);
        Check.due("asked() of no chests", x.asked(), 0);
    }
}

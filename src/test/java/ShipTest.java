/** Promises 8 to 14: ships, their speeds and orders, and HOME. */
public final class ShipTest {
    public static void main(String[] args) {
        ship();
        foul();
        told();
        mark();
        markOfCells();
        speed();
        speedOfBadNumbers();
        order();
        home();
        Check.close("ShipTest");
    }

    private static void ship() {
        TeaRace x = new TeaRace();
        x.land(5, true);
        Check.due("ship(-1, 0, 0)", x.ship(-1, 0, 0), -1);
        Check.due("ship(4, 0, 0)", x.ship(4, 0, 0), -1);
        Check.due("ship(0, -1, 0)", x.ship(0, -1, 0), -1);
        Check.due("ship(0, 160, 0)", x.ship(0, 160, 0), -1);
        Check.due("ship(0, 5, 0) on land", x.ship(0, 5, 0), -1);
        Check.due("ship(0, 0, -1)", x.ship(0, 0, -1), -1);
        Check.due("ship(0, 0, 20001)", x.ship(0, 0, 20001), -1);
        Check.due("count(0)", x.count(0), 0);
        for (int i = 0; i < 8; i++) {
            Check.due("ship " + i, x.ship(i % 4, 159 - i, 20000), i);
        }
        Check.due("a ninth ship", x.ship(0, 0, 0), -2);
        Check.due("a bad ninth ship", x.ship(0, 5, 0), -1);
        x.run(1);
        Check.due("a ninth ship, later", x.ship(0, 0, 0), -2);
        Check.due("count(0)", x.count(0), 8);
        TeaRace y = new TeaRace();
        Check.due("run(0)", y.run(0), 0);
        Check.due("ship after run(0)", y.ship(0, 0, 0), 0);
        y.run(1);
        Check.due("ship after run(1)", y.ship(0, 0, 0), -4);
        Check.due("bad ship after run(1)", y.ship(9, 0, 0), -1);
        Check.due("finding()", y.finding(), 0);
    }

    private static void foul() {
        TeaRace x = new TeaRace();
        x.ship(0, 0, 0);
        x.ship(2, 1, 0);
        Check.due("foul(0, 4)", x.foul(0, 4), 0);
        Check.due("foul(0, 9)", x.foul(0, 9), 4);
        Check.due("foul(0, 10)", x.foul(0, 10), -1);
        Check.due("foul(0, -1)", x.foul(0, -1), -1);
        Check.due("foul(0, 0)", x.foul(0, 0), 9);
        Check.due("foul(1, 3)", x.foul(1, 3), 0);
        Check.due("foul(2, 3)", x.foul(2, 3), -1);
        Check.due("foul(-1, 3)", x.foul(-1, 3), -1);
        Check.due("speed less foulness", x.speed(1, 0, 0, 0), 5);
        x.foul(1, 9);
        Check.due("speed is 0 at least", x.speed(1, 0, 0, 0), 0);
    }

    private static void told() {
        TeaRace x = new TeaRace();
        x.ship(3, 47, 1234);
        x.ship(0, 40, 7);
        int[] first = {3, 47, 0, 0, -9, -9, 1234};
        int[] other = {0, 40, 0, 0, -9, -9, 7};
        for (int what = 0; what < 7; what++) {
            Check.due("told(0, " + what + ")", x.told(0, what), first[what]);
            Check.due("told(1, " + what + ")", x.told(1, what), other[what]);
        }
        Check.due("told(0, 7)", x.told(0, 7), -1);
        Check.due("told(0, -1)", x.told(0, -1), -1);
        Check.due("told(2, 0)", x.told(2, 0), -1);
        Check.due("told(-1, 0)", x.told(-1, 0), -1);
        TeaRace y = new TeaRace();
        Seas.steamerEastOfHome(y, 2, 55);
        y.run(3);
        int[] going = {2, 2, 24, 6, -9, -9, 55};
        y.run(0);
        toldAll("going", y, going);
        y.run(5);
        toldAll("at cell 1", y, new int[] {2, 1, 4, 6, -9, -9, 55});
        y.run(7);
        toldAll("HOME", y, new int[] {2, 0, 0, 6, 14, 24, 55});
    }

    private static void toldAll(String when, TeaRace x, int[] want) {
        for (int what = 0; what < want.length; what++) {
            Check.due(when + ": told(0, " + what + ")", x.told(0, what), want[what]);
        }
    }

    private static void mark() {
        TeaRace x = new TeaRace();
        for (int kind = 0; kind < 4; kind++) {
            x.ship(kind, 159, 0);
            Seas.steer(x, kind, 2);
            Seas.steer(x, kind, 2);
        }
        int[][] want = {{-3, -3, -3}, {2, -3, -3}, {-3, 8, -3}, {2, -3, 0}};
        int unlike = 0;
        for (int ship = 0; ship < 4; ship++) {
            for (int kind = 1; kind < 4; kind++) {
                Check.due("mark(" + ship + ", " + kind + ")", x.mark(ship, kind), want[ship][kind - 1]);
                unlike += want[ship][kind - 1] == -3 ? 1 : 0;
                Check.due("findings(3)", x.findings(3), unlike);
            }
            Check.due("mark of kind 0", x.mark(ship, 0), -1);
            Check.due("mark of kind 4", x.mark(ship, 4), -1);
            Check.due("mark of kind -1", x.mark(ship, -1), -1);
        }
        Check.due("finding()", x.finding(), 3);
        Check.due("mark(4, 1)", x.mark(4, 1), -1);
        Check.due("mark(-1, 1)", x.mark(-1, 1), -1);
        x.foul(2, 3);
        Check.due("a foul steamer's speed", x.mark(2, 2), 5);
        x.foul(2, 9);
        Check.due("a very foul steamer's speed", x.mark(2, 2), 0);
    }

    private static void markOfCells() {
        TeaRace x = new TeaRace();
        Seas.blow(x, 0, 9);
        x.ship(3, 100, 0);
        Seas.steer(x, 0, 2);
        // 36 an hour: 60 is enough in the second, the fourth and the fifth hour
        x.run(2);
        Check.due("mark(0, 3)", x.mark(0, 3), 1);
        x.run(3);
        Check.due("mark(0, 3)", x.mark(0, 3), 3);
        x.run(20);
        Check.due("told(0, 1) at the sea's end", x.told(0, 1), 111);
        Check.due("mark(0, 3) at the sea's end", x.mark(0, 3), 11);
    }

    private static void speed() {
        TeaRace x = new TeaRace();
        for (int kind = 0; kind < 4; kind++) {
            x.ship(kind, 0, 0);
        }
        int[][] perStrength = {{0, 1, 2, 3, 2}, {0, 1, 3, 4, 2}, {0, 0, 0, 0, 0}, {0, 1, 4, 5, 2}};
        int[] apart = {0, 1, 2, 3, 4, 3, 2, 1};
        for (int foulness = 0; foulness <= 9; foulness += 3) {
            for (int ship = 0; ship < 4; ship++) {
                x.foul(ship, foulness);
            }
            for (int i = 0; i < 4 * 8 * 8 * 10 && i < 1000000; i++) {
                int ship = i / 640;
                int way = i / 80 % 8;
                int from = i / 10 % 8;
                int strength = i % 10;
                int full = ship == 2 ? 8 : perStrength[ship][apart[(way - from + 8) % 8]] * strength;
                Check.due("speed(" + ship + ", " + way + ", " + from + ", " + strength + ") foul " + foulness,
                    x.speed(ship, way, from, strength), Math.max(0, full - foulness));
            }
        }
    }

    private static void speedOfBadNumbers() {
        TeaRace x = new TeaRace();
        x.ship(0, 0, 0);
        Check.due("speed(1, 0, 0, 0)", x.speed(1, 0, 0, 0), -1);
        Check.due("speed(-1, 0, 0, 0)", x.speed(-1, 0, 0, 0), -1);
        Check.due("speed(0, 8, 0, 0)", x.speed(0, 8, 0, 0), -1);
        Check.due("speed(0, -1, 0, 0)", x.speed(0, -1, 0, 0), -1);
        Check.due("speed(0, 0, 8, 0)", x.speed(0, 0, 8, 0), -1);
        Check.due("speed(0, 0, -1, 0)", x.speed(0, 0, -1, 0), -1);
        Check.due("speed(0, 0, 0, 10)", x.speed(0, 0, 0, 10), -1);
        Check.due("speed(0, 0, 0, -1)", x.speed(0, 0, 0, -1), -1);
    }

    private static void order() {
        TeaRace x = new TeaRace();
        x.ship(1, 0, 0);
        x.ship(1, 0, 0);
        int[][] bad = {{-1, 0, 0, 0, 0, 0, 0}, {2, 0, 0, 0, 0, 0, 0}, {0, -1, 0, 0, 0, 0, 0}, {0, 0, 16, 0, 0, 0, 0},
            {0, 1, 0, 0, 0, 0, 0}, {0, 16, 16, 0, 0, 0, 0}, {0, -2, -1, 0, 0, 0, 0}, {0, 0, 0, -1, 0, 0, 0},
            {0, 0, 0, 0, 10, 0, 0}, {0, 0, 0, 5, 4, 0, 0}, {0, 0, 0, 10, 10, 0, 0}, {0, 0, 0, 0, 0, -1, 0},
            {0, 0, 0, 0, 0, 10, 0}, {0, 0, 0, 0, 0, 0, -1}, {0, 0, 0, 0, 0, 0, 8}};
        for (int i = 0; i < bad.length; i++) {
            int[] b = bad[i];
            Check.due("bad order " + i, x.order(b[0], b[1], b[2], b[3], b[4], b[5], b[6]), -1);
        }
        Check.due("mark(0, 1)", x.mark(0, 1), 0);
        for (int i = 1; i <= 20; i++) {
            Check.due("order " + i, x.order(0, 15, 15, 9, 9, 9, 7), i);
        }
        Check.due("order 21", x.order(0, 15, 15, 9, 9, 9, 7), -2);
        Check.due("bad order 21", x.order(0, 15, 14, 9, 9, 9, 7), -1);
        Check.due("the other's order", x.order(1, 0, 0, 0, 0, 0, 0), 1);
        Check.due("mark(0, 1)", x.mark(0, 1), 20);
        x.run(1);
        Check.due("an order at sea", x.order(1, 0, 0, 0, 0, 0, 0), 2);
        orderThatFits();
    }

    /** Columns 4 .. 6, rows 2 .. 3, strength 5: the way at an hour's begin tells which orders fit. */
    private static void orderThatFits() {
        for (int cell = 0; cell < 160; cell++) {
            TeaRace x = new TeaRace();
            Seas.blow(x, 0, 5);
            x.ship(0, cell, 0);
            x.order(0, 4, 6, 2, 3, 6, 1);
            x.order(0, 4, 6, 2, 3, 5, 3);
            x.order(0, 5, 7, 3, 3, 0, 5);
            boolean second = cell % 16 >= 4 && cell % 16 <= 6 && cell / 16 >= 2 && cell / 16 <= 3;
            boolean third = cell % 16 >= 5 && cell % 16 <= 7 && cell / 16 == 3;
            Check.due("the way before any hour", x.told(0, 3), 0);
            x.run(1);
            Check.due("the way told in cell " + cell, x.told(0, 3), second ? 3 : third ? 5 : 0);
        }
    }

    private static void home() {
        TeaRace x = new TeaRace();
        x.land(9, true);
        Check.due("home(-1, 0)", x.home(-1, 0), -1);
        Check.due("home(160, 0)", x.home(160, 0), -1);
        Check.due("home(9, 0) on land", x.home(9, 0), -1);
        Check.due("home(3, -1)", x.home(3, -1), -1);
        Check.due("home(3, 24)", x.home(3, 24), -1);
        Check.due("home(3, 23)", x.home(3, 23), 1);
        x.ship(0, 0, 0);
        x.sight(0, 0, 0);
        Check.due("home(9, 0) left HOME as it was", x.distance(0, 0, true), 3);
        x.run(1);
        Check.due("home(3, 23) at sea", x.home(3, 23), -4);
        Check.due("home(3, 24) at sea", x.home(3, 24), -1);
        Check.due("HOME is still 3", x.distance(0, 0, true), 3);
    }
}

/** Promises 8 to 14: ships, their speeds and orders, and HOME; each sentence has its tests. */
public final class ShipTest {
    public static void main(String[] args) {
        ship();
        shipOfBadNumbers();
        shipsAreFull();
        shipLater();
        foul();
        foulOfBadNumbers();
        told();
        toldOfBadNumbers();
        markOfOrders();
        markOfSpeed();
        markOfCells();
        markOfBadNumbers();
        markOfUnlike();
        speed();
        speedOfBadNumbers();
        order();
        orderOfBadNumbers();
        orderOfSpans();
        ordersAreFull();
        home();
        homeOfBadNumbers();
        homeLater();
        Document.close("ShipTest");
    }

    private static TeaRace fleet(int ships) {
        TeaRace x = new TeaRace();
        for (int ship = 0; ship < ships; ship++) {
            x.ship(ship % 4, 159 - ship, 10 * ship);
        }
        return x;
    }

    private static void ship() {
        Document.says(8, "A SHIP of a KIND with chests (0 .. 20000), in a CELL: its number.");
        TeaRace x = new TeaRace();
        int[] cells = {0, 159, 80, 80, 15, 144, 16, 143};
        int[] chests = {0, 20000, 1, 19999, 100, 5, 6, 7};
        for (int i = 0; i < 8; i++) {
            Check.due("ship " + i, x.ship(3 - i % 4, cells[i], chests[i]), i);
            Check.due("count(0)", x.count(0), i + 1);
        }
        for (int i = 0; i < 8; i++) {
            Check.due("its KIND", x.told(i, 0), 3 - i % 4);
            Check.due("its CELL", x.told(i, 1), cells[i]);
            Check.due("its chests", x.told(i, 6), chests[i]);
        }
    }

    private static void shipOfBadNumbers() {
        Document.says(8, "BAD: also LAND;");
        Edges.ofNumber("ship of a kind", Seas::atFirst, 0, 3, (x, kind) -> x.ship(kind, 0, 0));
        Edges.ofNumber("ship in a cell", () -> fleet(0), 0, 159, (x, cell) -> x.ship(0, cell, 0));
        Edges.ofNumber("ship of chests", Seas::atFirst, 0, 20000, (x, chests) -> x.ship(0, 0, chests));
        Edges.bad("ship on land", Seas::atFirst, x -> x.ship(0, 9, 0));
        Edges.bad("ship on the last cell, which is land", Seas::atFirst, x -> x.ship(0, 159, 0));
        Edges.bad("ninth ship on land", () -> landAmong(fleet(8)), x -> x.ship(0, 9, 0));
        Edges.bad("late ship on land", Seas::underWay, x -> x.ship(0, 9, 0));
        TeaRace x = landAmong(new TeaRace());
        x.land(9, false);
        Check.due("ship on land that is none any more", x.ship(0, 9, 0), 0);
    }

    private static TeaRace landAmong(TeaRace x) {
        x.land(9, true);
        return x;
    }

    private static void shipsAreFull() {
        Document.says(8, "FULL;");
        Check.due("the eighth ship", fleet(7).ship(3, 0, 9), 7);
        Edges.refused("ninth ship", () -> fleet(8), x -> x.ship(0, 0, 0), Edges.FULL, Edges.NO_FINDING);
        Edges.refused("ninth ship, later", () -> later(fleet(8), 5), x -> x.ship(0, 0, 0), Edges.FULL, Edges.NO_FINDING);
        Edges.bad("ninth ship of no kind", () -> fleet(8), x -> x.ship(4, 0, 0));
    }

    private static TeaRace later(TeaRace x, int hours) {
        x.run(hours);
        return x;
    }

    private static void shipLater() {
        Document.says(8, "STATE: the HOUR is not 0.");
        Edges.refused("ship at HOUR 1", () -> later(fleet(2), 1), x -> x.ship(0, 0, 0), Edges.STATE, Edges.NO_FINDING);
        Edges.refused("ship at HOUR 24", () -> later(fleet(0), 24), x -> x.ship(0, 0, 0), Edges.STATE, Edges.NO_FINDING);
        Edges.refused("ship under way", Seas::underWay, x -> x.ship(0, 0, 0), Edges.STATE, Edges.NO_FINDING);
        Check.due("ship after run(0)", later(fleet(2), 0).ship(0, 0, 0), 2);
    }

    private static void foul() {
        Document.says(9, "FOULNESS of a SHIP: what it was.");
        TeaRace x = fleet(8);
        for (int ship = 0; ship < 8; ship++) {
            Check.due("foul(" + ship + ", 9) at first", x.foul(ship, 9), 0);
        }
        Check.due("foul(7, 0)", x.foul(7, 0), 9);
        Check.due("foul(7, 4)", x.foul(7, 4), 0);
        Check.due("foul(0, 1)", x.foul(0, 1), 9);
        x.run(3);
        Check.due("foul(0, 1) again", x.foul(0, 1), 1);
        Check.due("foul(7, 9)", x.foul(7, 9), 4);
    }

    private static void foulOfBadNumbers() {
        Document.says(9, "BAD.");
        Edges.ofNumber("foul of a ship", Seas::atFirst, 0, 3, (x, ship) -> x.foul(ship, 1));
        Edges.ofNumber("foul of eight", () -> fleet(8), 0, 7, (x, ship) -> x.foul(ship, 1));
        Edges.ofNumber("foul so much", Seas::underWay, 0, 9, (x, f) -> x.foul(3, f));
        Edges.bad("foul without ships", TeaRace::new, x -> x.foul(0, 0));
    }

    private static void toldAll(String when, TeaRace x, int ship, int... want) {
        for (int what = 0; what < want.length; what++) {
            Check.due(when + ": told(" + ship + ", " + what + ")", x.told(ship, what), want[what]);
        }
    }

    private static void told() {
        Document.says(10, "Of a SHIP: 0 its KIND, 1 CELL, 2 GONE, 3 WAY, 4 HOUR at which it was HOME (NONE), 5 its ENTRY (NONE),"
            + " 6 chests.");
        TeaRace x = new TeaRace();
        Seas.steamerEastOfHome(x, 2, 55);
        x.ship(3, 47, 20000);
        toldAll("at first", x, 0, 2, 2, 0, 0, -9, -9, 55);
        toldAll("at first", x, 1, 3, 47, 0, 0, -9, -9, 20000);
        x.run(3);
        toldAll("going", x, 0, 2, 2, 24, 6, -9, -9, 55);
        x.run(5);
        toldAll("at cell 1", x, 0, 2, 1, 4, 6, -9, -9, 55);
        x.run(7);
        toldAll("HOME", x, 0, 2, 0, 0, 6, 14, 24, 55);
        toldAll("calm", x, 1, 3, 47, 0, 0, -9, -9, 20000);
    }

    private static void toldOfBadNumbers() {
        Document.says(10, "BAD.");
        Edges.ofNumber("told of a ship", Seas::atFirst, 0, 3, (x, ship) -> x.told(ship, 0));
        Edges.ofNumber("told of eight", () -> fleet(8), 0, 7, (x, ship) -> x.told(ship, 6));
        Edges.ofNumber("told what", Seas::underWay, 0, 6, (x, what) -> x.told(1, what));
        Edges.bad("told without ships", TeaRace::new, x -> x.told(0, 0));
    }

    private static void markOfOrders() {
        Document.says(11, "What a SHIP that IS of a KIND tells: a CLIPPER (a RACER, too) how many ORDERS it has,");
        TeaRace x = fleet(4);
        for (int ship = 1; ship < 4; ship += 2) {
            Check.due("mark(" + ship + ", 1) without orders", x.mark(ship, 1), 0);
            for (int orders = 1; orders <= 20; orders++) {
                Seas.steer(x, ship, 2);
                Check.due("mark(" + ship + ", 1)", x.mark(ship, 1), orders);
            }
            Seas.steer(x, ship, 2);
            Check.due("mark(" + ship + ", 1) with an order refused", x.mark(ship, 1), 20);
        }
    }

    private static void markOfSpeed() {
        Document.says(11, "a STEAMER its SPEED now,");
        TeaRace x = fleet(4);
        for (int foulness = 0; foulness <= 9; foulness++) {
            x.foul(2, foulness);
            Check.due("mark(2, 2) with foulness " + foulness, x.mark(2, 2), Math.max(0, 8 - foulness));
        }
        x.foul(2, 3);
        Seas.blow(x, 0, 9);
        Seas.steer(x, 2, 0);
        x.run(1);
        Check.due("mark(2, 2) against a wind", x.mark(2, 2), 5);
    }

    private static void markOfCells() {
        Document.says(11, "a RACER how many CELLS it has come to.");
        TeaRace x = new TeaRace();
        Seas.blow(x, 0, 9);
        x.ship(3, 100, 0);
        Seas.steer(x, 0, 2);
        Check.due("mark(0, 3) where it was at first", x.mark(0, 3), 0);
        // 36 an hour: 60 is enough in the second, the fourth and the fifth hour
        x.run(1);
        Check.due("mark(0, 3) before any", x.mark(0, 3), 0);
        x.run(1);
        Check.due("mark(0, 3)", x.mark(0, 3), 1);
        x.run(3);
        Check.due("mark(0, 3)", x.mark(0, 3), 3);
        x.run(20);
        Check.due("told(0, 1) at the sea's end", x.told(0, 1), 111);
        Check.due("mark(0, 3) at the sea's end", x.mark(0, 3), 11);
        TeaRace y = new TeaRace();
        y.home(5, 0);
        Seas.blow(y, 0, 9);
        y.ship(3, 7, 0);
        Seas.steer(y, 0, 6);
        y.run(10);
        Check.due("mark(0, 3): HOME is a cell that it came to", y.mark(0, 3), 2);
    }

    private static void markOfBadNumbers() {
        Document.says(11, "BAD: also KIND 0;");
        for (int ship = 0; ship < 4; ship++) {
            int s = ship;
            Edges.bad("mark of kind 0", Seas::atFirst, x -> x.mark(s, 0));
            for (int kind : Edges.beyond(1, 3)) {
                Edges.bad("mark(" + ship + ", " + kind + ")", Seas::underWay, x -> x.mark(s, kind));
            }
        }
        Edges.ofNumber("mark of a ship", ShipTest::racers, 0, 2, (x, ship) -> x.mark(ship, 1));
        Edges.ofNumber("mark of a racer", ShipTest::racers, 0, 2, (x, ship) -> x.mark(ship, 3));
        Edges.bad("mark without ships", TeaRace::new, x -> x.mark(0, 1));
    }

    private static TeaRace racers() {
        TeaRace x = new TeaRace();
        for (int ship = 0; ship < 3; ship++) {
            x.ship(3, 70 + ship, 0);
        }
        return x;
    }

    private static void markOfUnlike() {
        Document.says(11, "UNLIKE.");
        boolean[][] is = {{false, false, false}, {true, false, false}, {false, true, false}, {true, false, true}};
        for (int ship = 0; ship < 4; ship++) {
            for (int kind = 1; kind <= 3; kind++) {
                int s = ship;
                int k = kind;
                String call = "mark(" + ship + ", " + kind + ")";
                if (is[ship][kind - 1]) {
                    Edges.taken(call, Seas::underWay, x -> x.mark(s, k));
                } else {
                    Edges.finds(call, Seas::underWay, x -> x.mark(s, k), Edges.UNLIKE);
                }
            }
        }
    }

    private static void speed() {
        Document.says(12, "SPEED of a SHIP in a WAY with a wind from a WAY of a strength.");
        TeaRace x = fleet(4);
        x.foul(2, 3);
        Check.due("speed(0, 0, 3, 9)", x.speed(0, 0, 3, 9), 27);
        Check.due("speed(1, 7, 2, 9)", x.speed(1, 7, 2, 9), 36);
        Check.due("speed(2, 7, 7, 0)", x.speed(2, 7, 7, 0), 5);
        Check.due("speed(3, 7, 4, 9)", x.speed(3, 7, 4, 9), 45);
        Check.due("speed(3, 7, 7, 9)", x.speed(3, 7, 7, 9), 0);
        Seas.blow(x, 0, 79);
        Check.due("speed(0, 0, 1, 4) whatever its wind", x.speed(0, 0, 1, 4), 4);
        Check.due("speed(0, 0, 1, 0)", x.speed(0, 0, 1, 0), 0);
    }

    private static void speedOfBadNumbers() {
        Document.says(12, "BAD.");
        Edges.ofNumber("speed of a ship", Seas::atFirst, 0, 3, (x, ship) -> x.speed(ship, 0, 4, 9));
        Edges.ofNumber("speed in a way", Seas::atFirst, 0, 7, (x, way) -> x.speed(2, way, 4, 9));
        Edges.ofNumber("speed with a wind from", Seas::atFirst, 0, 7, (x, from) -> x.speed(0, 0, from, 9));
        Edges.ofNumber("speed with a strength", Seas::underWay, 0, 9, (x, strength) -> x.speed(2, 0, 4, strength));
        Edges.bad("speed without ships", TeaRace::new, x -> x.speed(0, 0, 0, 0));
    }

    private static void order() {
        Document.says(13, "An ORDER of a SHIP behind the others: how many it has.");
        TeaRace x = fleet(2);
        x.home(0, 0);
        for (int orders = 1; orders <= 20; orders++) {
            Check.due("order " + orders, x.order(0, 0, 15, 0, 9, orders == 1 ? 1 : 0, orders % 8), orders);
        }
        Check.due("the other's first order", x.order(1, 15, 15, 9, 9, 9, 7), 1);
        x.run(1);
        Check.due("the second order, as no wind is there", x.told(0, 3), 2);
        Check.due("the other's second order, at sea", x.order(1, 0, 15, 0, 9, 0, 5), 2);
        x.run(1);
        Check.due("the other's way", x.told(1, 3), 5);
        Check.due("an order behind one that fits", x.order(1, 0, 15, 0, 9, 0, 4), 3);
        x.run(1);
        Check.due("the other's way still", x.told(1, 3), 5);
    }

    private static void orderOfBadNumbers() {
        Document.says(13, "BAD:");
        Edges.ofNumber("order of a ship", Seas::atFirst, 0, 3, (x, ship) -> x.order(ship, 0, 15, 0, 9, 0, 5));
        Edges.ofNumber("order from column", Seas::atFirst, 0, 15, (x, a) -> x.order(0, a, 15, 0, 9, 0, 5));
        Edges.ofNumber("order to column", Seas::atFirst, 0, 15, (x, b) -> x.order(0, 0, b, 0, 9, 0, 5));
        Edges.ofNumber("order from row", Seas::atFirst, 0, 9, (x, c) -> x.order(0, 0, 15, c, 9, 0, 5));
        Edges.ofNumber("order to row", Seas::atFirst, 0, 9, (x, d) -> x.order(0, 0, 15, 0, d, 0, 5));
        Edges.ofNumber("order of strength", Seas::atFirst, 0, 9, (x, s) -> x.order(0, 0, 15, 0, 9, s, 5));
        Edges.ofNumber("order of way", Seas::underWay, 0, 7, (x, way) -> x.order(0, 0, 15, 0, 9, 0, way));
        Edges.bad("order without ships", TeaRace::new, x -> x.order(0, 0, 0, 0, 0, 0, 0));
    }

    private static void orderOfSpans() {
        Document.says(13, "a above b, c above d, too;");
        int[][] above = {{1, 0, 0, 0}, {15, 14, 0, 9}, {15, 0, 0, 9}, {0, 15, 1, 0}, {0, 15, 9, 8}, {0, 15, 9, 0}, {3, 2, 3, 2},
            {16, 16, 0, 9}, {-2, -1, 0, 9}, {0, 15, 10, 10}, {0, 15, -2, -1}};
        for (int[] b : above) {
            String call = "order of " + b[0] + " .. " + b[1] + ", " + b[2] + " .. " + b[3];
            Edges.bad(call, Seas::atFirst, x -> x.order(3, b[0], b[1], b[2], b[3], 0, 1));
        }
        int[][] same = {{0, 0, 0, 0}, {15, 15, 9, 9}, {7, 7, 0, 9}, {0, 15, 5, 5}};
        for (int[] s : same) {
            Edges.taken("order of like ends", Seas::atFirst, x -> x.order(3, s[0], s[1], s[2], s[3], 0, 1));
        }
    }

    private static TeaRace fullOfOrders() {
        TeaRace x = Seas.atFirst();
        for (int orders = 1; orders < 20; orders++) {
            x.order(3, 0, 15, 0, 9, 9, 7);
        }
        return x;
    }

    private static void ordersAreFull() {
        Document.says(13, "FULL.");
        Edges.refused("order 21", ShipTest::fullOfOrders, x -> x.order(3, 0, 15, 0, 9, 0, 1), Edges.FULL, Edges.NO_FINDING);
        Edges.bad("order 21 of a above b", ShipTest::fullOfOrders, x -> x.order(3, 1, 0, 0, 9, 0, 1));
        Edges.bad("order 21 of no way", ShipTest::fullOfOrders, x -> x.order(3, 0, 15, 0, 9, 0, 8));
        Check.due("mark(3, 1)", fullOfOrders().mark(3, 1), 20);
        Check.due("another ship's order", fullOfOrders().order(0, 0, 15, 0, 9, 0, 1), 3);
    }

    private static void home() {
        Document.says(14, "HOME is a CELL, the GATE from HOUR g (0 .. 23) of the day: 1.");
        TeaRace x = fleet(1);
        x.sight(0, 0, 0);
        int[] cells = {159, 0, 15, 144, 34};
        int[] distances = {15, 0, 15, 9, 2};
        for (int i = 0; i < cells.length; i++) {
            Check.due("home(" + cells[i] + ", 23)", x.home(cells[i], 23), 1);
            Check.due("distance of cell 0", x.distance(0, 0, false), distances[i]);
        }
        for (int g = 0; g < 24; g++) {
            TeaRace y = new TeaRace();
            y.home(100, 5);
            Check.due("home(0, " + g + ")", y.home(0, g), 1);
            Seas.bringHome(y, 24 + g, Seas.steamerAtAnchor(y, 0));
            Check.due("ENTRY as the gate opens", y.told(0, 5), 24 + g);
        }
        Check.due("home() where a ship lies", fleet(1).home(159, 0), 1);
    }

    private static void homeOfBadNumbers() {
        Document.says(14, "BAD: also LAND;");
        Edges.ofNumber("home in a cell", () -> fleet(3), 0, 159, (x, cell) -> x.home(cell, 10));
        Edges.ofNumber("home with a gate", Seas::atFirst, 0, 23, (x, g) -> x.home(34, g));
        Edges.bad("home on land", Seas::atFirst, x -> x.home(9, 10));
        Edges.bad("home on land, later", Seas::underWay, x -> x.home(9, 10));
        Edges.bad("home of no cell, later", Seas::underWay, x -> x.home(160, 10));
        Edges.bad("home of no gate, later", Seas::underWay, x -> x.home(34, 24));
    }

    private static void homeLater() {
        Document.says(14, "STATE: the HOUR is not 0.");
        Edges.refused("home at HOUR 1", () -> later(fleet(2), 1), x -> x.home(3, 3), Edges.STATE, Edges.NO_FINDING);
        Edges.refused("home under way", Seas::underWay, x -> x.home(3, 3), Edges.STATE, Edges.NO_FINDING);
        Edges.refused("home where it is", Seas::underWay, x -> x.home(34, 10), Edges.STATE, Edges.NO_FINDING);
        Check.due("home after run(0)", later(fleet(2), 0).home(3, 3), 1);
    }
}

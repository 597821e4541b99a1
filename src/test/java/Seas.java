/** Objects in the states that several tests begin with. */
final class Seas {
    private Seas() {
    }

    /** A chart with the same wind in every cell. */
    static void blow(TeaRace x, int month, int wind) {
        x.chart(month);
        x.wind(month, 0, wind);
        for (int done = 1; done < 160; done *= 2) {
            x.copy(month, 0, month, done, Math.min(done, 160 - done));
        }
    }

    /** An order that always fits. */
    static void steer(TeaRace x, int ship, int way) {
        x.order(ship, 0, 15, 0, 9, 0, way);
    }

    /** A steamer so many cells east of cell 0, which goes west: the cells take 8, 15, 23, 30, 38, 45 hours. */
    static int steamerEastOfHome(TeaRace x, int cells, int chests) {
        int ship = x.ship(2, cells, chests);
        steer(x, ship, 6);
        return ship;
    }

    /** Steamers 1, 2, 3 .. cells from HOME with so many chests, all HOME; the gate opens at hour 7 each day. */
    static TeaRace allHome(int... chests) {
        TeaRace x = new TeaRace();
        x.home(0, 7);
        for (int i = 0; i < chests.length; i++) {
            steamerEastOfHome(x, i + 1, chests[i]);
        }
        x.run(100);
        return x;
    }

    /**
     * A racer in cell 34 that has 80 of 85 gone south-west, when a wind of strength 9 rises everywhere, by which its
     * way is east and its speed 45: 125 are enough for two cells.
     */
    static TeaRace racerBeforeTwoMoves(int home) {
        TeaRace x = new TeaRace();
        x.home(home, 0);
        blow(x, 0, 18);
        x.ship(3, 34, 0);
        x.order(0, 0, 15, 0, 9, 9, 2);
        x.order(0, 0, 15, 0, 9, 8, 5);
        x.run(5);
        blow(x, 0, 79);
        return x;
    }

    /** A steamer in cell 1 under order west, too foul to go before it is let go. */
    static int steamerAtAnchor(TeaRace x, int chests) {
        int ship = steamerEastOfHome(x, 1, chests);
        x.foul(ship, 9);
        return ship;
    }

    /** Steamers at anchor are let go so that they are HOME in an hour, 7 or more hours from now. */
    static void bringHome(TeaRace x, int hour, int... ships) {
        goTo(x, hour - 7);
        for (int ship : ships) {
            x.foul(ship, 0);
        }
        x.run(8);
    }

    /** Runs until it is an hour. */
    static void goTo(TeaRace x, int hour) {
        for (int left = hour - x.count(1); left > 0; left -= 2000) {
            x.run(Math.min(2000, left));
        }
    }

    /** HOUR 0, with something of everything, one finding too: whatever is changed in it shows in its Portrait. */
    static TeaRace atFirst() {
        TeaRace x = new TeaRace();
        x.home(34, 10);
        x.land(9, true);
        x.land(70, true);
        x.land(159, true);
        blow(x, 0, 25);
        x.wind(0, 53, -7);
        x.chart(1);
        x.wind(1, 40, 63);
        x.ship(0, 37, 250);
        x.ship(1, 66, 120);
        x.ship(2, 36, 90);
        x.ship(3, 100, 1000);
        x.foul(3, 2);
        x.order(0, 0, 15, 2, 2, 3, 6);
        x.order(0, 0, 15, 0, 9, 0, 3);
        steer(x, 1, 0);
        steer(x, 2, 6);
        x.order(3, 5, 15, 0, 9, 5, 7);
        x.sight(0, 5, 3);
        x.sight(0, 6, 9);
        x.sight(1, 100, 2);
        x.sight(1, 90, 12);
        x.sight(3, 8, 5);
        x.charter(0, 2, 9);
        x.charter(1, 3, 70);
        x.charter(2, 4, 5);
        x.market(80, 7);
        x.tear(2);
        return x;
    }

    /** The same at HOUR 16: ships 1 and 2 are HOME, a sale has been told. */
    static TeaRace underWay() {
        TeaRace x = atFirst();
        x.run(16);
        x.sale(1);
        return x;
    }
}

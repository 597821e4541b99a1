/** Objects in the states that several tests begin with. */
final class Seas {
    private Seas() {
    }

    /** A chart with the same wind in every cell. */
    static void blow(TeaRace x, int month, int wind) {
        x.chart(month);
        x.wind(month, 0, wind);
        for (int done = 1; done < 160; done *= 2) {
            x.copy(month, 0, month, done, Math.min(done, 160 - done));
        }
    }

    /** An order that always fits. */
    static void steer(TeaRace x, int ship, int way) {
        x.order(ship, 0, 15, 0, 9, 0, way);
    }

    /** A steamer so many cells east of cell 0, which goes west: the cells take 8, 15, 23, 30, 38, 45 hours. */
    static int steamerEastOfHome(TeaRace x, int cells, int chests) {
        int ship = x.ship(2, cells, chests);
        steer(x, ship, 6);
        return ship;
    }
}

import java.util.ArrayList;
import java.util.List;

/** All that calls can tell of an object, but for its findings; the object itself is spent by it. */
final class Portrait {
    private static final int[] LOG_HOURS = {2, 4, 5, 9, 12};

    private Portrait() {
    }

    /** Some 400 answers: objects with few ships can be told of after a hundred calls. */
    static List<Long> of(TeaRace x) {
        List<Long> told = new ArrayList<>();
        told.add(x.digest());
        told.add(x.asked());
        ships(x, told);
        logs(x, told);
        for (int hours = 0; hours < 10; hours++) {
            told.add((long) x.run(2));
            told.add(x.digest());
        }
        told.add((long) x.run(700));
        told.add(x.digest());
        ships(x, told);
        for (int cell = 0; cell < 160; cell++) {
            told.add((long) x.land(cell, false));
        }
        return told;
    }

    private static void ships(TeaRace x, List<Long> told) {
        for (int ship = 0; ship < x.count(0); ship++) {
            told.add((long) x.mark(ship, 1));
            told.add((long) x.mark(ship, 3));
            told.add((long) x.speed(ship, 3, 0, 9));
            told.add((long) x.freight(ship));
            told.add((long) x.sale(ship));
            told.add(x.asked());
        }
        told.add((long) x.first());
        told.add((long) x.meanPrice());
    }

    private static void logs(TeaRace x, List<Long> told) {
        for (int ship = 0; ship < Math.min(4, x.count(0)); ship++) {
            for (int hour : LOG_HOURS) {
                told.add((long) x.distance(ship, hour, false));
                told.add((long) x.distance(ship, hour, true));
            }
        }
    }
}

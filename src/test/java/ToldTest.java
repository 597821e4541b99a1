/** Promises 27 to 30: counts, findings, and the digest; each sentence has its tests. */
public final class ToldTest {
    public static void main(String[] args) {
        count();
        countAtMost();
        countOfBadNumbers();
        findingBeforeAny();
        finding();
        findings();
        findingsOfBadNumbers();
        digestOfNew();
        digestByItsValues();
        digestOfAll();
        Document.close("ToldTest");
    }

    private static void counts(String when, TeaRace x, int... want) {
        for (int what = 0; what < want.length; what++) {
            Check.due(when + ": count(" + what + ")", x.count(what), want[what]);
        }
    }

    private static void count() {
        Document.says(27, "0 SHIPS, 1 the HOUR, 2 CHARTS that are there, 3 SIGHTS, 4 SHIPS that are HOME.");
        TeaRace x = new TeaRace();
        counts("new", x, 0, 0, 0, 0, 0);
        Seas.steamerEastOfHome(x, 1, 0);
        Seas.steamerEastOfHome(x, 9, 0);
        counts("with ships", x, 2, 0, 0, 0, 0);
        x.chart(0);
        x.chart(5);
        x.chart(11);
        x.chart(5);
        x.tear(0);
        counts("with charts", x, 2, 0, 2, 0, 0);
        x.sight(0, 0, 0);
        x.sight(1, 0, 0);
        x.sight(1, 0, 1);
        counts("with sights", x, 2, 0, 2, 3, 0);
        x.run(7);
        counts("under way", x, 2, 7, 2, 3, 0);
        x.run(1);
        counts("one HOME", x, 2, 8, 2, 3, 1);
        x.run(2000);
        counts("both HOME", x, 2, 2008, 2, 3, 2);
    }

    private static void countAtMost() {
        TeaRace x = new TeaRace();
        for (int ship = 0; ship < 9; ship++) {
            Seas.steamerEastOfHome(x, 1, 0);
        }
        for (int month = -1; month < 13; month++) {
            x.chart(month);
        }
        for (int hour = 0; hour < 61; hour++) {
            x.sight(hour % 8, 0, hour);
        }
        Seas.goTo(x, 100000);
        x.run(1);
        counts("at most", x, 8, 100000, 12, 60, 8);
    }

    private static void countOfBadNumbers() {
        Document.says(27, "BAD.");
        Edges.ofNumber("count", Seas::underWay, 0, 4, TeaRace::count);
        Edges.ofNumber("count of a new object", TeaRace::new, 0, 4, TeaRace::count);
    }

    private static int find(TeaRace x, int f) {
        switch (f) {
            case 1: return x.tear(0);
            case 2: return x.wind(1, 160, 0);
            case 3: return x.mark(0, 1);
            case 4: return x.meanPrice();
            default: return x.copy(0, 0, 0, 0, -1);
        }
    }

    private static TeaRace beforeFindings() {
        TeaRace x = new TeaRace();
        x.ship(0, 0, 0);
        x.chart(1);
        return x;
    }

    private static void findingBeforeAny() {
        Document.says(28, "(0 before any).");
        Check.due("finding() of a new object", new TeaRace().finding(), 0);
        TeaRace x = beforeFindings();
        x.chart(-1);
        x.run(2001);
        x.freight(0);
        x.first();
        x.least(0, 0, 1, 0);
        x.distance(0, 0, true);
        Check.due("finding() after other refusals, and NONE", x.finding(), 0);
        for (int f = 1; f <= 5; f++) {
            Check.due("findings(" + f + ")", x.findings(f), 0);
        }
    }

    private static void finding() {
        Document.says(28, "The latest FINDING");
        for (int before = 1; before <= 5; before++) {
            for (int f = 1; f <= 5; f++) {
                TeaRace x = beforeFindings();
                Check.due("a call that finds " + before, find(x, before), -3);
                Check.due("finding()", x.finding(), before);
                Check.due("a call that finds " + f, find(x, f), -3);
                Check.due("finding()", x.finding(), f);
                x.chart(-1);
                x.run(-1);
                x.freight(0);
                x.chart(7);
                x.findings(6);
                Check.due("finding() is the latest one still", x.finding(), f);
            }
        }
    }

    private static void findings() {
        Document.says(29, "How often a FINDING (1 .. 5) was answered.");
        TeaRace x = beforeFindings();
        int[] times = {1, 3, 2, 5, 4};
        for (int round = 0; round < 5; round++) {
            for (int f = 1; f <= 5; f++) {
                if (round < times[f - 1]) {
                    Check.due("a call that finds " + f, find(x, f), -3);
                }
                Check.due("findings(" + f + ")", x.findings(f), Math.min(round + 1, times[f - 1]));
            }
        }
        TeaRace y = beforeFindings();
        for (int i = 0; i < 400; i++) {
            find(y, 4);
        }
        Check.due("findings(4)", y.findings(4), 400);
        Check.due("findings(5)", y.findings(5), 0);
    }

    private static void findingsOfBadNumbers() {
        Document.says(29, "BAD.");
        Edges.ofNumber("findings", Seas::underWay, 1, 5, TeaRace::findings);
        Edges.ofNumber("findings of a new object", TeaRace::new, 1, 5, TeaRace::findings);
    }

    private static long fold(long h, long... values) {
        for (long v : values) {
            h = 31 * h + v;
        }
        return h;
    }

    private static void digestOfNew() {
        Document.says(30, "h = 17; then h = 31 h + v for each v: count() 0 to 4;");
        long h = fold(17, 0, 0, 0, 0, 0);
        h = fold(h, -1, -1, -1, -1, -1, -1, -1, -1, -1, -1, -1, -1);
        Check.due("digest() of a new object", new TeaRace().digest(), h);
        TeaRace x = new TeaRace();
        x.run(2000);
        h = fold(17, 0, 2000, 0, 0, 0);
        h = fold(h, -1, -1, -1, -1, -1, -1, -1, -1, -1, -1, -1, -1);
        Check.due("digest() after 2000 hours", x.digest(), h);
        Check.due("digest() again", x.digest(), h);
    }

    private static void digestByItsValues() {
        Document.says(30, "of each SHIP told() 0 to 6; of each CHART its bytes (-1 once: missing).");
        TeaRace x = new TeaRace();
        x.home(2, 13);
        x.ship(3, 100, 77);
        x.ship(2, 3, 20000);
        Seas.steer(x, 1, 6);
        x.chart(0);
        x.wind(0, 0, -100);
        x.wind(0, 159, 250);
        x.chart(11);
        x.wind(11, 80, 79);
        x.sight(0, 3, 3);
        x.run(9);
        long h = fold(17, 2, 9, 2, 1, 1);
        h = fold(h, 3, 100, 0, 0, -9, -9, 77);
        h = fold(h, 2, 2, 4, 6, 7, 13, 20000);
        h = fold(h, -100);
        h = fold(h, new long[158]);
        h = fold(h, -6);
        h = fold(h, -1, -1, -1, -1, -1, -1, -1, -1, -1, -1);
        h = fold(h, new long[80]);
        h = fold(h, 79);
        h = fold(h, new long[79]);
        Check.due("digest()", x.digest(), h);
        Check.due("digest() again", x.digest(), h);
    }

    /** Eight ships and twelve charts, each with bytes of its own. */
    private static void digestOfAll() {
        TeaRace x = new TeaRace();
        long h = fold(17, 8, 0, 12, 0, 0);
        for (int ship = 0; ship < 8; ship++) {
            x.ship(ship % 4, 20 * ship, 30 * ship);
            h = fold(h, ship % 4, 20 * ship, 0, 0, -9, -9, 30 * ship);
        }
        for (int month = 0; month < 12; month++) {
            x.chart(month);
            x.wind(month, month, 127);
            x.wind(month, 159 - month, 128);
            h = fold(h, new long[month]);
            h = fold(h, 127);
            h = fold(h, new long[158 - 2 * month]);
            h = fold(h, -128);
            h = fold(h, new long[month]);
        }
        Check.due("digest() of all", x.digest(), h);
        x.tear(11);
        Check.holds("digest() of all but one", x.digest() != h);
    }
}

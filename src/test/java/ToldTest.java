/** Promises 27 to 30: counts, findings, and the digest. */
public final class ToldTest {
    public static void main(String[] args) {
        count();
        findings();
        refusedChangesNothing();
        digestOfNew();
        digestByItsValues();
        Check.close("ToldTest");
    }

    private static void count() {
        TeaRace x = new TeaRace();
        Seas.steamerEastOfHome(x, 1, 0);
        Seas.steamerEastOfHome(x, 9, 0);
        x.chart(0);
        x.chart(5);
        x.chart(11);
        x.tear(5);
        x.sight(0, 0, 0);
        x.sight(1, 0, 0);
        x.sight(1, 0, 1);
        x.run(10);
        int[] want = {2, 10, 2, 3, 1};
        for (int what = 0; what < 5; what++) {
            Check.due("count(" + what + ")", x.count(what), want[what]);
        }
        Check.due("count(5)", x.count(5), -1);
        Check.due("count(-1)", x.count(-1), -1);
    }

    private static void findings() {
        TeaRace x = new TeaRace();
        x.ship(0, 0, 0);
        int[] times = {1, 3, 2, 5, 4};
        for (int round = 0; round < 5; round++) {
            for (int f = 1; f <= 5; f++) {
                if (round < times[f - 1]) {
                    Check.due("a call that finds " + f, find(x, f), -3);
                    Check.due("finding()", x.finding(), f);
                }
            }
        }
        for (int f = 1; f <= 5; f++) {
            Check.due("findings(" + f + ")", x.findings(f), times[f - 1]);
        }
        Check.due("findings(0)", x.findings(0), -1);
        Check.due("findings(6)", x.findings(6), -1);
        Check.due("findings(-1)", x.findings(-1), -1);
        int latest = x.finding();
        x.chart(-1);
        x.run(-1);
        x.freight(0);
        x.chart(7);
        Check.due("finding() is the latest one still", x.finding(), latest);
    }

    private static int find(TeaRace x, int f) {
        switch (f) {
            case 1: return x.tear(0);
            case 2:
                x.chart(1);
                return x.wind(1, 160, 0);
            case 3: return x.mark(0, 1);
            case 4: return x.meanPrice();
            default: return x.copy(0, 0, 0, 0, -1);
        }
    }

    private static void refusedChangesNothing() {
        TeaRace x = new TeaRace();
        for (int i = 0; i < 8; i++) {
            x.ship(i % 4, 20 + i, i);
        }
        x.land(9, true);
        x.chart(2);
        x.wind(2, 3, 44);
        x.run(30);
        long before = x.digest();
        x.land(160, true);
        x.chart(12);
        x.wind(2, 160, 1);
        x.wind(3, 3, 1);
        x.tear(3);
        x.copy(2, 3, 2, 159, 2);
        x.copy(2, 3, 3, 0, 2);
        x.copy(2, 0, 2, 0, -2);
        x.ship(0, 0, 0);
        x.ship(4, 0, 0);
        x.foul(0, 10);
        x.mark(0, 3);
        x.order(0, 3, 2, 0, 0, 0, 0);
        x.home(3, 3);
        x.home(9, 0);
        x.run(2001);
        x.sight(0, 160, 0);
        x.meanPrice();
        Check.due("digest() after refusals", x.digest(), before);
        Check.due("findings(2)", x.findings(2), 2);
    }

    private static long fold(long h, long... values) {
        for (long v : values) {
            h = 31 * h + v;
        }
        return h;
    }

    private static void digestOfNew() {
        long h = fold(17, 0, 0, 0, 0, 0);
        h = fold(h, -1, -1, -1, -1, -1, -1, -1, -1, -1, -1, -1, -1);
        Check.due("digest() of a new object", new TeaRace().digest(), h);
    }

    private static void digestByItsValues() {
        TeaRace x = new TeaRace();
        x.home(2, 13);
        x.ship(3, 100, 77);
        x.ship(2, 3, 20000);
        Seas.steer(x, 1, 6);
        x.chart(0);
        x.wind(0, 0, -100);
        x.wind(0, 159, 250);
        x.chart(11);
        x.wind(11, 80, 79);
        x.sight(0, 3, 3);
        x.run(9);
        long h = fold(17, 2, 9, 2, 1, 1);
        h = fold(h, 3, 100, 0, 0, -9, -9, 77);
        h = fold(h, 2, 2, 4, 6, 7, 13, 20000);
        h = fold(h, -100);
        h = fold(h, new long[158]);
        h = fold(h, -6);
        h = fold(h, -1, -1, -1, -1, -1, -1, -1, -1, -1, -1);
        h = fold(h, new long[80]);
        h = fold(h, 79);
        h = fold(h, new long[79]);
        Check.due("digest()", x.digest(), h);
        Check.due("digest() again", x.digest(), h);
    }
}

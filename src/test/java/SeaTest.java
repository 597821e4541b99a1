/** Promises 1 to 7: a new object, land, and the charts. */
public final class SeaTest {
    public static void main(String[] args) {
        newObject();
        land();
        chart();
        wind();
        tear();
        copy();
        copyOnItself();
        mean();
        Check.close("SeaTest");
    }

    private static void newObject() {
        TeaRace x = new TeaRace();
        for (int what = 0; what <= 4; what++) {
            Check.due("new: count(" + what + ")", x.count(what), 0);
        }
        Check.due("new: first()", x.first(), -9);
        Check.due("new: asked()", x.asked(), 0);
        Check.due("new: finding()", x.finding(), 0);
        for (int f = 1; f <= 5; f++) {
            Check.due("new: findings(" + f + ")", x.findings(f), 0);
        }
        for (int cell = 0; cell < 160; cell++) {
            Check.due("new: land(" + cell + ")", x.land(cell, false), 0);
        }
        for (int month = 0; month < 12; month++) {
            Check.due("new: mean(" + month + ")", x.mean(month), -3);
        }
        x.ship(0, 35, 0);
        x.sight(0, 35, 0);
        Check.due("new: HOME is cell 0", x.distance(0, 0, true), 3);
        gateOfNewObject();
    }

    private static void gateOfNewObject() {
        // 1 cell takes a steamer 8 hours, so it is HOME in hour 7: the gate 0 .. 5 is shut until 24
        TeaRace x = new TeaRace();
        Seas.steamerEastOfHome(x, 1, 0);
        x.run(8);
        Check.due("new: told(0, 4)", x.told(0, 4), 7);
        Check.due("new: told(0, 5)", x.told(0, 5), 24);
    }

    private static void land() {
        TeaRace x = new TeaRace();
        Check.due("land(0, true)", x.land(0, true), 0);
        Check.due("land(0, true) again", x.land(0, true), 1);
        Check.due("land(0, false)", x.land(0, false), 1);
        Check.due("land(0, false) again", x.land(0, false), 0);
        Check.due("land(159, true)", x.land(159, true), 0);
        Check.due("land(159, false)", x.land(159, false), 1);
        Check.due("land(-1, true)", x.land(-1, true), -1);
        Check.due("land(160, true)", x.land(160, true), -1);
        Check.due("land(min, true)", x.land(Integer.MIN_VALUE, true), -1);
        Check.due("land(max, true)", x.land(Integer.MAX_VALUE, true), -1);
    }

    private static void chart() {
        TeaRace x = new TeaRace();
        Check.due("chart(0)", x.chart(0), 0);
        Check.due("chart(11)", x.chart(11), 0);
        Check.due("count(2)", x.count(2), 2);
        x.wind(0, 7, 35);
        Check.due("chart(0) again", x.chart(0), 1);
        Check.due("chart(0) is calm again", x.wind(0, 7, 0), 1000);
        Check.due("count(2) still", x.count(2), 2);
        Check.due("chart(-1)", x.chart(-1), -1);
        Check.due("chart(12)", x.chart(12), -1);
        Check.due("finding()", x.finding(), 0);
    }

    private static void wind() {
        TeaRace x = new TeaRace();
        Check.due("wind(3, 0, 1) missing", x.wind(3, 0, 1), -3);
        Check.due("finding()", x.finding(), 1);
        Check.due("wind(3, 160, 1) missing", x.wind(3, 160, 1), -3);
        Check.due("finding() is NOTHING first", x.finding(), 1);
        x.chart(3);
        Check.due("wind(3, 160, 1)", x.wind(3, 160, 1), -3);
        Check.due("finding()", x.finding(), 2);
        Check.due("wind(3, -1, 1)", x.wind(3, -1, 1), -3);
        Check.due("findings(2)", x.findings(2), 2);
        Check.due("wind(12, 0, 1)", x.wind(12, 0, 1), -1);
        Check.due("wind(-1, -1, 1)", x.wind(-1, -1, 1), -1);
        int[] given = {0, 79, 80, 127, 128, 200, 255, 256, -1, -128, -129, Integer.MAX_VALUE, Integer.MIN_VALUE};
        int[] bytes = {0, 79, 80, 127, -128, -56, -1, 0, -1, -128, 127, -1, 0};
        int was = 0;
        for (int i = 0; i < given.length; i++) {
            Check.due("wind(3, 159, " + given[i] + ")", x.wind(3, 159, given[i]), 1000 + was);
            was = bytes[i];
        }
        Check.due("wind(3, 159, 0)", x.wind(3, 159, 0), 1000);
        Check.due("wind(3, 0, 0) of another cell", x.wind(3, 0, 0), 1000);
    }

    private static void tear() {
        TeaRace x = new TeaRace();
        Check.due("tear(5) missing", x.tear(5), -3);
        Check.due("finding()", x.finding(), 1);
        x.chart(5);
        x.wind(5, 9, 44);
        Check.due("tear(5)", x.tear(5), 1);
        Check.due("count(2)", x.count(2), 0);
        Check.due("wind(5, 9, 1) torn", x.wind(5, 9, 1), -3);
        Check.due("tear(5) again", x.tear(5), -3);
        Check.due("chart(5)", x.chart(5), 0);
        Check.due("wind(5, 9, 1) drawn anew", x.wind(5, 9, 1), 1000);
        Check.due("tear(-1)", x.tear(-1), -1);
        Check.due("tear(12)", x.tear(12), -1);
        Check.due("findings(1)", x.findings(1), 3);
    }

    private static void copy() {
        TeaRace x = new TeaRace();
        Check.due("copy(12, 0, 0, 0, -1)", x.copy(12, 0, 0, 0, -1), -1);
        Check.due("copy(0, 0, 12, 0, -1)", x.copy(0, 0, 12, 0, -1), -1);
        Check.due("copy(-1, 0, 0, 0, 1)", x.copy(-1, 0, 0, 0, 1), -1);
        Check.due("copy(0, 0, -1, 0, 1)", x.copy(0, 0, -1, 0, 1), -1);
        Check.due("copy(0, 0, 1, 0, -1)", x.copy(0, 0, 1, 0, -1), -3);
        Check.due("finding() is SIZE first", x.finding(), 5);
        Check.due("copy(0, 0, 1, 0, 161)", x.copy(0, 0, 1, 0, 161), -3);
        Check.due("finding() is NOTHING next", x.finding(), 1);
        x.chart(0);
        Check.due("copy(0, 0, 1, 0, 1) to missing", x.copy(0, 0, 1, 0, 1), -3);
        Check.due("copy(1, 0, 0, 0, 1) from missing", x.copy(1, 0, 0, 0, 1), -3);
        Check.due("findings(1)", x.findings(1), 3);
        x.chart(1);
        x.wind(0, 0, 11);
        x.wind(0, 1, 12);
        x.wind(0, 159, 13);
        Check.due("copy(0, 0, 1, 100, 2)", x.copy(0, 0, 1, 100, 2), 1);
        Check.due("wind(1, 99)", x.wind(1, 99, 0), 1000);
        Check.due("wind(1, 100)", x.wind(1, 100, 0), 1011);
        Check.due("wind(1, 101)", x.wind(1, 101, 0), 1012);
        Check.due("wind(1, 102)", x.wind(1, 102, 0), 1000);
        Check.due("copy(0, 0, 1, 0, 160)", x.copy(0, 0, 1, 0, 160), 1);
        Check.due("wind(1, 159)", x.wind(1, 159, 0), 1013);
        Check.due("wind(0, 159) stays", x.wind(0, 159, 13), 1013);
        copyBeyond(x);
    }

    private static void copyBeyond(TeaRace x) {
        int before = x.findings(2);
        int[][] beyond = {{0, 0, 161}, {1, 0, 160}, {0, 1, 160}, {-1, 0, 1}, {0, -1, 1}, {160, 0, 1}, {0, 160, 1},
            {161, 0, 0}, {0, 161, 0}, {-1, 0, 0}, {0, -1, 0}, {1, 0, Integer.MAX_VALUE}, {Integer.MAX_VALUE, 0, 1},
            {Integer.MAX_VALUE, 0, Integer.MAX_VALUE}, {Integer.MIN_VALUE, 0, 0}};
        for (int[] b : beyond) {
            Check.due("copy(0, " + b[0] + ", 1, " + b[1] + ", " + b[2] + ")", x.copy(0, b[0], 1, b[1], b[2]), -3);
            Check.due("finding()", x.finding(), 2);
        }
        Check.due("findings(2)", x.findings(2), before + beyond.length);
        Check.due("copy(0, 160, 1, 0, 0)", x.copy(0, 160, 1, 0, 0), 1);
        Check.due("copy(0, 0, 1, 160, 0)", x.copy(0, 0, 1, 160, 0), 1);
        Check.due("copy(0, 159, 1, 159, 1)", x.copy(0, 159, 1, 159, 1), 1);
    }

    private static void copyOnItself() {
        TeaRace x = new TeaRace();
        x.chart(2);
        for (int cell = 0; cell < 10; cell++) {
            x.wind(2, cell, 10 + cell);
        }
        Check.due("copy(2, 0, 2, 3, 7) upward", x.copy(2, 0, 2, 3, 7), 1);
        int[] up = {10, 11, 12, 10, 11, 12, 13, 14, 15, 16};
        for (int cell = 0; cell < 10; cell++) {
            Check.due("upward: wind(2, " + cell + ")", x.wind(2, cell, 10 + cell), 1000 + up[cell]);
        }
        Check.due("copy(2, 3, 2, 0, 7) downward", x.copy(2, 3, 2, 0, 7), 1);
        int[] down = {13, 14, 15, 16, 17, 18, 19, 17, 18, 19};
        for (int cell = 0; cell < 10; cell++) {
            Check.due("downward: wind(2, " + cell + ")", x.wind(2, cell, 0), 1000 + down[cell]);
        }
    }

    private static void mean() {
        TeaRace x = new TeaRace();
        Check.due("mean(4) missing", x.mean(4), -3);
        Check.due("finding()", x.finding(), 1);
        Check.due("mean(-1)", x.mean(-1), -1);
        Check.due("mean(12)", x.mean(12), -1);
        Seas.blow(x, 4, 79);
        Check.due("mean(4) of nines", x.mean(4), 9);
        x.wind(4, 0, 78);
        Check.due("mean(4) is cut", x.mean(4), 8);
        Seas.blow(x, 4, 80);
        Check.due("mean(4) of none such", x.mean(4), 0);
        Seas.blow(x, 4, 89);
        Check.due("mean(4) of none such with a nine", x.mean(4), 0);
        Seas.blow(x, 4, 127);
        Check.due("mean(4) of the greatest bytes", x.mean(4), 0);
        Seas.blow(x, 4, -1);
        Check.due("mean(4) of bytes below 0", x.mean(4), 0);
        Seas.blow(x, 4, 31);
        Check.due("mean(4) of ones", x.mean(4), 1);
        x.wind(4, 77, -128);
        Check.due("mean(4) of ones but one", x.mean(4), 0);
    }
}

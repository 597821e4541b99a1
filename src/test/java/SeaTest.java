/** Promises 1 to 7: a new object, land, and the charts; each sentence has its tests. */
public final class SeaTest {
    private static final int[] NUMBERS = {0, 1, 9, 10, 79, 80, 99, 127, 128, 200, 255, 256, 257, 335, 1000, -1, -128, -129,
        -256, -257, 65536, Integer.MAX_VALUE, Integer.MIN_VALUE, 0};

    public static void main(String[] args) {
        newHasNothing();
        newHour();
        newHome();
        newGate();
        landOrNot();
        landOfNoCell();
        chartIsThere();
        chartOfNoMonth();
        windOfCell();
        windCutToByte();
        windRefused();
        tear();
        tearRefused();
        copy();
        copyOnItself();
        copyRefused();
        copyBeyond();
        mean();
        meanOfNoneSuch();
        meanRefused();
        Document.close("SeaTest");
    }

    private static void newHasNothing() {
        Document.says(1, "No SHIPS, CHARTS;");
        TeaRace x = new TeaRace();
        Check.due("count(0)", x.count(0), 0);
        Check.due("told(0, 0)", x.told(0, 0), -1);
        Check.due("count(2)", x.count(2), 0);
        for (int month = 0; month < 12; month++) {
            Check.due("mean(" + month + ")", x.mean(month), -3);
        }
        Check.due("count(3)", x.count(3), 0);
        Check.due("count(4)", x.count(4), 0);
        Check.due("the first ship", x.ship(0, 0, 0), 0);
    }

    private static void newHour() {
        Document.says(1, "HOUR 0;");
        TeaRace x = new TeaRace();
        Check.due("count(1)", x.count(1), 0);
        Check.due("home(0, 0): the HOUR is 0", x.home(0, 0), 1);
        Check.due("ship(0, 0, 0): the HOUR is 0", x.ship(0, 0, 0), 0);
    }

    private static void newHome() {
        Document.says(1, "HOME is CELL 0,");
        TeaRace x = new TeaRace();
        x.ship(0, 35, 0);
        x.sight(0, 35, 0);
        Check.due("cell (3, 2) is so far from HOME", x.distance(0, 0, true), 3);
        TeaRace y = new TeaRace();
        Seas.steamerEastOfHome(y, 1, 0);
        Check.due("a ship comes to cell 0", y.run(8), 1);
    }

    private static void newGate() {
        Document.says(1, "the GATE from HOUR 0.");
        int[] home = {7, 23, 24, 29, 30};
        int[] entry = {24, 24, 24, 29, 48};
        for (int i = 0; i < home.length; i++) {
            TeaRace x = new TeaRace();
            Seas.bringHome(x, home[i], Seas.steamerAtAnchor(x, 0));
            Check.due("HOME", x.told(0, 4), home[i]);
            Check.due("ENTRY of one HOME in hour " + home[i], x.told(0, 5), entry[i]);
        }
    }

    private static void landOrNot() {
        Document.says(2, "A CELL is LAND, or not: 1 if it was.");
        TeaRace x = new TeaRace();
        for (int cell = 0; cell < 160; cell++) {
            Check.due("land(" + cell + ", true) of a cell that was none", x.land(cell, true), 0);
        }
        for (int cell = 0; cell < 160; cell++) {
            Check.due("land(" + cell + ", " + (cell % 2 == 0) + ") of land", x.land(cell, cell % 2 == 0), 1);
        }
        for (int cell = 0; cell < 160; cell++) {
            Check.due("land(" + cell + ", false)", x.land(cell, false), cell % 2 == 0 ? 1 : 0);
        }
        Check.due("land(159, false) again", x.land(159, false), 0);
        Check.due("no cell is land now", x.ship(0, 0, 0), 0);
        Check.due("land under a ship", x.land(0, true), 0);
        Check.due("cell 0 is land now", x.ship(0, 0, 0), -1);
    }

    private static void landOfNoCell() {
        Document.says(2, "BAD.");
        Edges.ofNumber("land to be", Seas::atFirst, 0, 159, (x, cell) -> x.land(cell, true));
        Edges.ofNumber("land to be none", Seas::atFirst, 0, 159, (x, cell) -> x.land(cell, false));
    }

    private static void chartIsThere() {
        Document.says(3, "A CHART is there, calm everywhere: 1 if it was there, else 0.");
        TeaRace x = new TeaRace();
        for (int month = 0; month < 12; month++) {
            Check.due("chart(" + month + ") that was missing", x.chart(month), 0);
            Check.due("count(2)", x.count(2), month + 1);
        }
        for (int cell = 0; cell < 160; cell++) {
            Check.due("cell " + cell + " is calm", x.wind(cell % 12, cell, 35), 1000);
        }
        for (int month = 0; month < 12; month++) {
            Check.due("chart(" + month + ") that was there", x.chart(month), 1);
        }
        for (int cell = 0; cell < 160; cell++) {
            Check.due("cell " + cell + " is calm again", x.wind(cell % 12, cell, 0), 1000);
        }
        Check.due("count(2)", x.count(2), 12);
        x.tear(4);
        Check.due("chart(4) that is missing again", x.chart(4), 0);
    }

    private static void chartOfNoMonth() {
        Document.says(3, "BAD.");
        Edges.ofNumber("chart", Seas::atFirst, 0, 11, TeaRace::chart);
        Edges.ofNumber("chart of a new object", TeaRace::new, 0, 11, TeaRace::chart);
    }

    private static void windOfCell() {
        Document.says(4, "WIND of a CELL in a CHART");
        TeaRace x = new TeaRace();
        x.chart(0);
        x.chart(11);
        Check.due("wind(0, 0, 79)", x.wind(0, 0, 79), 1000);
        Check.due("wind(0, 159, 1)", x.wind(0, 159, 1), 1000);
        Check.due("wind(11, 0, 0) of another chart", x.wind(11, 0, 0), 1000);
        Check.due("wind(0, 1, 5) of another cell", x.wind(0, 1, 5), 1000);
        Check.due("wind(0, 0, 0)", x.wind(0, 0, 0), 1079);
        Check.due("wind(0, 0, 0) again", x.wind(0, 0, 0), 1000);
        Check.due("wind(0, 159, 2)", x.wind(0, 159, 2), 1001);
        Check.due("wind(0, 159, 3)", x.wind(0, 159, 3), 1002);
    }

    private static void windCutToByte() {
        Document.says(4, "(0 .. 79, or another number cut to a byte): what it was, and 1000 more.");
        TeaRace x = new TeaRace();
        x.chart(3);
        int was = 0;
        for (int number : NUMBERS) {
            Check.due("wind(3, 80, " + number + ")", x.wind(3, 80, number), 1000 + was);
            was = (byte) number;
        }
        TeaRace y = new TeaRace();
        y.chart(3);
        y.wind(3, 80, -129 + 256);
        for (int number = -128; number < 128; number++) {
            Check.due("wind, then byte " + number, y.wind(3, 80, number + 256), 1000 + (byte) (number - 1));
        }
    }

    private static void windRefused() {
        Document.says(4, "BAD: the MONTH;");
        Edges.ofNumber("wind of a month", () -> charted(0, 11), 0, 11, (x, month) -> x.wind(month, 0, 5));
        for (int month : Edges.beyond(0, 11)) {
            Edges.bad("wind of no month and no cell", Seas::atFirst, x -> x.wind(month, 160, 5));
        }
        Document.says(4, "NOTHING;");
        for (int month = 2; month < 12; month++) {
            int missing = month;
            Edges.finds("wind without a chart", Seas::atFirst, x -> x.wind(missing, 0, 5), Edges.NOTHING);
        }
        Edges.finds("wind without a chart, of no cell", Seas::atFirst, x -> x.wind(2, 160, 5), Edges.NOTHING);
        Edges.finds("wind of a torn chart", SeaTest::torn, x -> x.wind(1, 0, 5), Edges.NOTHING);
        Document.says(4, "BEYOND: the CELL.");
        for (int cell : Edges.beyond(0, 159)) {
            Edges.finds("wind of cell " + cell, Seas::atFirst, x -> x.wind(1, cell, 5), Edges.BEYOND);
        }
        Edges.taken("wind of cell 0", Seas::atFirst, x -> x.wind(1, 0, 5));
        Edges.taken("wind of cell 159", Seas::atFirst, x -> x.wind(1, 159, 5));
    }

    private static TeaRace charted(int... months) {
        TeaRace x = new TeaRace();
        for (int month : months) {
            x.chart(month);
        }
        return x;
    }

    private static TeaRace torn() {
        TeaRace x = Seas.atFirst();
        x.tear(1);
        return x;
    }

    private static void tear() {
        Document.says(5, "A CHART is missing: 1.");
        TeaRace x = charted(0, 5, 11);
        x.wind(5, 9, 44);
        Check.due("tear(5)", x.tear(5), 1);
        Check.due("count(2)", x.count(2), 2);
        Check.due("wind(5, 9, 1)", x.wind(5, 9, 1), -3);
        Check.due("chart(5)", x.chart(5), 0);
        Check.due("wind(5, 9, 1) drawn anew", x.wind(5, 9, 1), 1000);
        Check.due("tear(0)", x.tear(0), 1);
        Check.due("tear(11)", x.tear(11), 1);
        Check.due("tear(5)", x.tear(5), 1);
        Check.due("count(2)", x.count(2), 0);
    }

    private static void tearRefused() {
        Document.says(5, "BAD;");
        Edges.ofNumber("tear", () -> charted(0, 11), 0, 11, TeaRace::tear);
        Document.says(5, "NOTHING.");
        for (int month = 2; month < 12; month++) {
            int missing = month;
            Edges.finds("tear of month " + month, Seas::atFirst, x -> x.tear(missing), Edges.NOTHING);
        }
        Edges.finds("tear again", SeaTest::torn, x -> x.tear(1), Edges.NOTHING);
        Edges.finds("tear in a new object", TeaRace::new, x -> x.tear(0), Edges.NOTHING);
    }

    private static void copy() {
        Document.says(6, "n CELLS of a CHART, from one on, come to those of another one");
        TeaRace x = charted(0, 1);
        x.wind(0, 0, 11);
        x.wind(0, 1, -12);
        x.wind(0, 159, 13);
        x.wind(1, 102, 14);
        Check.due("copy(0, 0, 1, 100, 2)", x.copy(0, 0, 1, 100, 2), 1);
        int[] want = {0, 11, -12, 14, 0};
        for (int i = 0; i < want.length; i++) {
            Check.due("cell " + (99 + i), x.wind(1, 99 + i, want[i]), 1000 + want[i]);
        }
        Check.due("copy(0, 0, 1, 0, 0) of no cells", x.copy(0, 0, 1, 0, 0), 1);
        Check.due("cell 0 stays", x.wind(1, 0, 0), 1000);
        Check.due("copy(0, 159, 1, 159, 1) of the last cell", x.copy(0, 159, 1, 159, 1), 1);
        Check.due("the last cell", x.wind(1, 159, 0), 1013);
        Check.due("copy(0, 159, 1, 0, 1)", x.copy(0, 159, 1, 0, 1), 1);
        Check.due("cell 0", x.wind(1, 0, 0), 1013);
        Check.due("copy(0, 0, 1, 0, 160) of all cells", x.copy(0, 0, 1, 0, 160), 1);
        Check.due("cell 0", x.wind(1, 0, 0), 1011);
        Check.due("cell 1", x.wind(1, 1, 0), 988);
        Check.due("cell 102", x.wind(1, 102, 0), 1000);
        Check.due("cell 159", x.wind(1, 159, 0), 1013);
        Check.due("the other chart stays", x.wind(0, 0, 0), 1011);
    }

    private static void copyOnItself() {
        Document.says(6, "(perhaps itself) from one on, as if taken ahead: 1.");
        TeaRace x = charted(2);
        for (int cell = 0; cell < 10; cell++) {
            x.wind(2, cell, 10 + cell);
        }
        Check.due("copy(2, 0, 2, 3, 7) upward", x.copy(2, 0, 2, 3, 7), 1);
        int[] up = {10, 11, 12, 10, 11, 12, 13, 14, 15, 16};
        for (int cell = 0; cell < 10; cell++) {
            Check.due("upward: cell " + cell, x.wind(2, cell, 10 + cell), 1000 + up[cell]);
        }
        Check.due("copy(2, 3, 2, 0, 7) downward", x.copy(2, 3, 2, 0, 7), 1);
        int[] down = {13, 14, 15, 16, 17, 18, 19, 17, 18, 19};
        for (int cell = 0; cell < 10; cell++) {
            Check.due("downward: cell " + cell, x.wind(2, cell, down[cell]), 1000 + down[cell]);
        }
        Check.due("copy(2, 0, 2, 0, 160) upon itself", x.copy(2, 0, 2, 0, 160), 1);
        Check.due("copy(2, 0, 2, 1, 159) to the end", x.copy(2, 0, 2, 1, 159), 1);
        Check.due("cell 0", x.wind(2, 0, 0), 1013);
        Check.due("cell 1", x.wind(2, 1, 0), 1013);
        Check.due("cell 10", x.wind(2, 10, 0), 1019);
        Check.due("cell 11", x.wind(2, 11, 0), 1000);
    }

    private static void copyRefused() {
        Document.says(6, "BAD;");
        Edges.ofNumber("copy from a month", () -> charted(0, 11), 0, 11, (x, month) -> x.copy(month, 0, 0, 0, 1));
        Edges.ofNumber("copy to a month", () -> charted(0, 11), 0, 11, (x, month) -> x.copy(0, 0, month, 0, 1));
        Edges.bad("copy from no month of fewer than none", Seas::atFirst, x -> x.copy(12, -1, 0, 0, -1));
        Edges.bad("copy to no month of fewer than none", Seas::atFirst, x -> x.copy(2, 0, -1, 160, -1));
        Document.says(6, "SIZE: n below 0;");
        for (int n : new int[] {-1, -2, -160, Integer.MIN_VALUE}) {
            Edges.finds("copy of " + n, Seas::atFirst, x -> x.copy(0, 0, 1, 0, n), Edges.SIZE);
            Edges.finds("copy without charts of " + n, Seas::atFirst, x -> x.copy(2, -1, 3, 160, n), Edges.SIZE);
        }
        Edges.taken("copy of 0", Seas::atFirst, x -> x.copy(0, 0, 1, 0, 0));
        Document.says(6, "NOTHING: either;");
        Edges.finds("copy from a missing one", Seas::atFirst, x -> x.copy(2, 0, 1, 0, 1), Edges.NOTHING);
        Edges.finds("copy to a missing one", Seas::atFirst, x -> x.copy(0, 0, 2, 0, 1), Edges.NOTHING);
        Edges.finds("copy of no cells to a missing one", Seas::atFirst, x -> x.copy(0, 0, 2, 0, 0), Edges.NOTHING);
        Edges.finds("copy of a missing one on itself", Seas::atFirst, x -> x.copy(2, 0, 2, 0, 0), Edges.NOTHING);
        Edges.finds("copy of too many to a missing one", Seas::atFirst, x -> x.copy(0, 0, 2, 0, 161), Edges.NOTHING);
        Edges.finds("copy from a torn one", SeaTest::torn, x -> x.copy(1, 0, 0, 0, 1), Edges.NOTHING);
    }

    private static void copyBeyond() {
        Document.says(6, "BEYOND: not so many there.");
        int max = Integer.MAX_VALUE;
        int[][] beyond = {{0, 0, 161}, {1, 0, 160}, {0, 1, 160}, {159, 0, 2}, {0, 159, 2}, {160, 0, 1}, {0, 160, 1},
            {161, 0, 0}, {0, 161, 0}, {-1, 0, 1}, {0, -1, 1}, {-1, 0, 0}, {0, -1, 0}, {1, 0, max}, {0, 1, max},
            {max, 0, 1}, {0, max, 1}, {max, 0, max}, {0, max, max}, {Integer.MIN_VALUE, 0, 0}, {0, Integer.MIN_VALUE, 1}};
        for (int[] b : beyond) {
            String call = "copy(0, " + b[0] + ", 1, " + b[1] + ", " + b[2] + ")";
            Edges.finds(call, Seas::atFirst, x -> x.copy(0, b[0], 1, b[1], b[2]), Edges.BEYOND);
        }
        Edges.taken("copy(0, 160, 1, 0, 0)", Seas::atFirst, x -> x.copy(0, 160, 1, 0, 0));
        Edges.taken("copy(0, 0, 1, 160, 0)", Seas::atFirst, x -> x.copy(0, 0, 1, 160, 0));
        Edges.taken("copy(0, 1, 1, 0, 159)", Seas::atFirst, x -> x.copy(0, 1, 1, 0, 159));
        Edges.taken("copy(0, 0, 1, 1, 159)", Seas::atFirst, x -> x.copy(0, 0, 1, 1, 159));
    }

    private static void mean() {
        Document.says(7, "The mean strength of a CHART, cut.");
        TeaRace x = new TeaRace();
        Seas.blow(x, 11, 79);
        Check.due("mean(11) of nines", x.mean(11), 9);
        x.wind(11, 0, 78);
        Check.due("mean(11) of nines but one", x.mean(11), 8);
        Seas.blow(x, 0, 31);
        Check.due("mean(0) of ones", x.mean(0), 1);
        x.wind(0, 159, 70);
        Check.due("mean(0) of ones but one", x.mean(0), 0);
        x.wind(0, 0, 2);
        Check.due("mean(0) of as much again", x.mean(0), 1);
        x.chart(0);
        Check.due("mean(0) of a calm", x.mean(0), 0);
        Check.due("mean(11) still", x.mean(11), 8);
    }

    private static void meanOfNoneSuch() {
        int[] noneSuch = {80, 81, 89, 99, 127, -1, -9, -79, -128};
        for (int number : noneSuch) {
            TeaRace x = new TeaRace();
            Seas.blow(x, 4, number);
            Check.due("mean of bytes " + number, x.mean(4), 0);
            Seas.blow(x, 4, 1);
            x.wind(4, 0, 2);
            x.wind(4, 77, number);
            Check.due("mean of ones, a two and " + number, x.mean(4), 1);
            x.wind(4, 0, 1);
            Check.due("mean of ones and " + number, x.mean(4), 0);
        }
    }

    private static void meanRefused() {
        Document.says(7, "BAD;");
        Edges.ofNumber("mean", () -> charted(0, 11), 0, 11, TeaRace::mean);
        Document.says(7, "NOTHING.");
        for (int month = 2; month < 12; month++) {
            int missing = month;
            Edges.finds("mean of month " + month, Seas::atFirst, x -> x.mean(missing), Edges.NOTHING);
        }
        Edges.finds("mean of a torn one", SeaTest::torn, x -> x.mean(1), Edges.NOTHING);
        Edges.finds("mean in a new object", TeaRace::new, x -> x.mean(0), Edges.NOTHING);
    }
}

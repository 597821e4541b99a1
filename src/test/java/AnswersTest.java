/** The Terms, ANSWERS: what is refused and how, in what order, and that it changes nothing; sentence by sentence. */
public final class AnswersTest {
    private static final String ANSWERS = "ANSWERS";

    public static void main(String[] args) {
        wholeRace();
        manyCalls();
        changesShow();
        badIsFirst();
        fullIsNext();
        stateIsNext();
        findingIsLast();
        refusalsHaveTheirNumbers();
        callsThatSaySo();
        none();
        refusedChangesNothing();
        findings();
        Document.close("AnswersTest");
    }

    private static void says(String words) {
        Document.says(ANSWERS, words);
    }

    private static void full(String call, Edges.State state, Edges.Call c) {
        Edges.refused(call, state, c, Edges.FULL, Edges.NO_FINDING);
    }

    private static void state(String call, Edges.State state, Edges.Call c) {
        Edges.refused(call, state, c, Edges.STATE, Edges.NO_FINDING);
    }

    private static void wholeRace() {
        Document.says("What it is", "A tea race: ships that load the new leaf and race home over a sea of cells by winds of"
            + " months, with what their captains order by what they see; the least days there can be beside;");
        TeaRace x = new TeaRace();
        x.home(33, 8);
        Seas.blow(x, 0, 25);
        int clipper = x.ship(1, 37, 120);
        int steamer = x.ship(2, 36, 80);
        x.order(clipper, 0, 15, 0, 9, 5, 6);
        Seas.steer(x, steamer, 6);
        Check.due("the clipper's least hours, slanting", x.least(clipper, 37, 33, 0), 20);
        Check.due("the steamer's least hours", x.least(steamer, 36, 33, 0), 24);
        Check.due("both come home", x.run(24), 2);
        Check.due("the clipper's hour", x.told(clipper, 4), 23);
        Check.due("the steamer's hour", x.told(steamer, 4), 22);
        Document.says("What it is", "logs with gaps, and who was ahead when, surely or perhaps;");
        x.sight(clipper, 37, 0);
        x.sight(clipper, 33, 23);
        x.sight(steamer, 36, 0);
        x.sight(steamer, 33, 22);
        Check.due("the steamer is ahead at first", x.ahead(clipper, steamer, 0), 1);
        Check.due("perhaps it is after an hour", x.ahead(clipper, steamer, 1), 2);
        Check.due("it is gone from the log before the clipper is home", x.ahead(clipper, steamer, 23), -9);
        Document.says("What it is", "freights by the line of a charter, the first home by the dock's hours, and a market that"
            + " falls as chests come in, each chest led.");
        x.charter(clipper, 2, 50);
        x.charter(steamer, 3, 60);
        Check.due("the first by the dock's hours", x.first(), steamer);
        Check.due("its freight and premium", x.freight(steamer), 300);
        Check.due("the other's freight", x.freight(clipper), 240);
        Check.due("the lesser ship sells first at one entry", x.sale(clipper), 100);
        Check.due("the price has fallen by two hundreds begun", x.sale(steamer), 98);
        Check.due("the mean of all chests: 19840 by 200", x.meanPrice(), 99);
    }

    /** The 512th call of an object answers as any other one. */
    private static void manyCalls() {
        Document.says("What it is", "An object is used for at most 512 calls after it has been made;"
            + " what later calls answer is free.");
        TeaRace x = new TeaRace();
        for (int ship = 0; ship < 8; ship++) {
            x.ship(3, 159, 20000);
        }
        for (int i = 0; i < 160; i++) {
            x.order(i / 20, 0, 15, 0, 9, 9, 7);
        }
        for (int i = 0; i < 60; i++) {
            x.sight(i % 8, 159, i);
        }
        for (int month = 0; month < 12; month++) {
            x.chart(month);
        }
        for (int i = 0; i < 50; i++) {
            Check.due("run(2000)", x.run(2000), 0);
        }
        for (int i = 0; i < 220; i++) {
            Check.due("least(" + i % 8 + ", 0, 159, " + i + ")", x.least(i % 8, 0, 159, i), -9);
        }
        Check.due("call 511", x.count(3), 60);
        Check.due("call 512", x.mark(7, 1), 20);
    }

    /** A guard of the tests themselves: a portrait is not blind for anything that a call can change. */
    private static void changesShow() {
        Edges.Call[] changes = {x -> x.land(0, true), x -> x.land(70, false), x -> x.chart(2), x -> x.chart(0),
            x -> x.wind(1, 0, -1), x -> x.wind(0, 53, -6), x -> x.tear(1), x -> x.copy(0, 0, 1, 159, 1),
            x -> x.ship(0, 0, 0), x -> x.foul(3, 3), x -> x.order(3, 4, 4, 6, 6, 5, 1), x -> x.order(1, 5, 5, 5, 5, 0, 7),
            x -> x.home(35, 10), x -> x.home(34, 11), x -> x.home(34, 9), x -> x.run(1), x -> x.sight(0, 5, 10),
            x -> x.sight(2, 5, 4), x -> x.sight(1, 5, 13), x -> x.charter(1, 4, 70), x -> x.charter(1, 3, 71),
            x -> x.charter(2, 5, 5), x -> x.market(81, 7), x -> x.market(80, 6)};
        for (int i = 0; i < changes.length; i++) {
            TeaRace x = Seas.atFirst();
            changes[i].on(x);
            Check.holds("change " + i + " shows", !Portrait.of(x).equals(Portrait.of(Seas.atFirst())));
        }
        TeaRace x = Seas.underWay();
        x.sale(2);
        Check.holds("a sale shows", !Portrait.of(x).equals(Portrait.of(Seas.underWay())));
    }

    private static TeaRace fullOfAll(int hours) {
        TeaRace x = Seas.atFirst();
        for (int ship = 4; ship < 8; ship++) {
            x.ship(0, 0, 0);
        }
        for (int i = 0; i < 20; i++) {
            x.order(0, 0, 15, 0, 9, 9, 7);
        }
        for (int i = 0; i < 55; i++) {
            x.sight(2, 7, i);
        }
        Seas.goTo(x, hours);
        return x;
    }

    private static void badIsFirst() {
        says("Refused is, the first of these that fits, in this order: BAD -1 (a number that is none, or not as told),");
        Edges.State late = () -> fullOfAll(100000);
        Edges.bad("ship of no kind, full and late", late, x -> x.ship(4, 0, 0));
        Edges.bad("ship in no cell, full and late", late, x -> x.ship(0, 160, 0));
        Edges.bad("ship on land, full and late", late, x -> x.ship(0, 9, 0));
        Edges.bad("ship of too many chests, full and late", late, x -> x.ship(0, 0, 20001));
        Edges.bad("order of no way, full", late, x -> x.order(0, 0, 15, 0, 9, 0, 8));
        Edges.bad("order of a above b, full", late, x -> x.order(0, 15, 0, 0, 9, 0, 1));
        Edges.bad("sight in no cell, full", late, x -> x.sight(0, -1, 90));
        Edges.bad("sight not later, full", late, x -> x.sight(0, 5, 9));
        Edges.bad("run of too many, beyond", late, x -> x.run(2001));
        Edges.bad("home of no gate, late", late, x -> x.home(34, -1));
        Edges.bad("home on land, late", late, x -> x.home(9, 0));
        Edges.bad("freight of no ship", Seas::atFirst, x -> x.freight(4));
        Edges.bad("sale of no ship", Seas::atFirst, x -> x.sale(-1));
        Edges.bad("wind of no month, in no cell", Seas::atFirst, x -> x.wind(12, 160, 0));
        Edges.bad("copy from no month, of fewer than none", Seas::atFirst, x -> x.copy(-1, 0, 0, 0, -1));
        Edges.bad("mark of no ship", Seas::atFirst, x -> x.mark(4, 3));
    }

    private static void fullIsNext() {
        says("FULL -2,");
        full("a ninth ship, late", () -> fullOfAll(1), x -> x.ship(0, 0, 0));
        full("a ninth ship at HOUR 0", () -> fullOfAll(0), x -> x.ship(0, 0, 0));
        full("an order", () -> fullOfAll(0), x -> x.order(0, 0, 15, 0, 9, 0, 1));
        full("a sight", () -> fullOfAll(0), x -> x.sight(0, 5, 90));
        full("a run", () -> fullOfAll(100000), x -> x.run(1));
    }

    private static void stateIsNext() {
        says("STATE -4 (not now),");
        state("a ship, late", Seas::underWay, x -> x.ship(0, 0, 0));
        state("home, late", Seas::underWay, x -> x.home(0, 0));
        state("freight at sea", Seas::underWay, x -> x.freight(0));
        state("sale at sea", Seas::underWay, x -> x.sale(0));
    }

    private static void findingIsLast() {
        says("FINDING -3 (finding() tells which),");
        Edges.finds("wind", Seas::underWay, x -> x.wind(2, 0, 0), Edges.NOTHING);
        Edges.finds("tear", Seas::underWay, x -> x.tear(2), Edges.NOTHING);
        Edges.finds("mean", Seas::underWay, x -> x.mean(2), Edges.NOTHING);
        Edges.finds("copy", Seas::underWay, x -> x.copy(0, 0, 2, 0, 1), Edges.NOTHING);
        Edges.finds("mark", Seas::underWay, x -> x.mark(0, 1), Edges.UNLIKE);
        Edges.finds("meanPrice", Seas::atFirst, TeaRace::meanPrice, Edges.NOUGHT);
    }

    private static void refusalsHaveTheirNumbers() {
        Check.due("BAD", TeaRace.BAD, -1);
        Check.due("FULL", TeaRace.FULL, -2);
        Check.due("FINDING", TeaRace.FINDING, -3);
        Check.due("STATE", TeaRace.STATE, -4);
    }

    /** Where a call tells the order itself, that one counts. */
    private static void callsThatSaySo() {
        says("unless a call says so otherwise.");
        Edges.finds("wind in no cell of no chart", Seas::atFirst, x -> x.wind(2, -1, 0), Edges.NOTHING);
        Edges.finds("wind in no cell", Seas::atFirst, x -> x.wind(0, -1, 0), Edges.BEYOND);
        Edges.finds("copy of fewer than none, of no chart", Seas::atFirst, x -> x.copy(2, 0, 0, 0, -1), Edges.SIZE);
        Edges.finds("copy of too many, of no chart", Seas::atFirst, x -> x.copy(2, 0, 0, 0, 161), Edges.NOTHING);
        Edges.finds("copy of too many", Seas::atFirst, x -> x.copy(0, 0, 1, 0, 161), Edges.BEYOND);
    }

    private static void none() {
        says("NONE -9.");
        Check.due("NONE", TeaRace.NONE, -9);
        TeaRace x = Seas.atFirst();
        Check.due("first()", x.first(), -9);
        Check.due("told(0, 4)", x.told(0, 4), -9);
        Check.due("told(0, 5)", x.told(0, 5), -9);
        Check.due("distance(2, 0, true)", x.distance(2, 0, true), -9);
        Check.due("ahead(0, 2, 3)", x.ahead(0, 2, 3), -9);
        Check.due("least(1, 143, 0, 97000)", x.least(1, 143, 0, 97000), -9);
        Check.due("NONE is no finding", x.finding(), Seas.atFirst().finding());
    }

    private static void refusedChangesNothing() {
        says("What is refused changes nothing but finding(), findings().");
        Edges.Call[] refused = {x -> x.land(160, true), x -> x.chart(12), x -> x.wind(12, 0, 9), x -> x.wind(2, 0, 9),
            x -> x.wind(0, 160, 9), x -> x.tear(-1), x -> x.tear(3), x -> x.copy(0, 0, 12, 0, 9), x -> x.copy(0, 0, 1, 0, -9),
            x -> x.copy(0, 0, 2, 0, 9), x -> x.copy(0, 0, 1, 155, 9), x -> x.copy(0, 155, 1, 0, 9), x -> x.mean(12),
            x -> x.mean(2), x -> x.ship(4, 0, 0), x -> x.ship(0, 9, 0), x -> x.ship(0, 0, -1), x -> x.foul(0, 10),
            x -> x.foul(4, 0), x -> x.told(0, 7), x -> x.mark(0, 0), x -> x.mark(0, 3), x -> x.speed(0, 8, 0, 0),
            x -> x.order(0, 3, 2, 0, 9, 0, 1), x -> x.order(3, 0, 15, 0, 9, 10, 1), x -> x.home(9, 3), x -> x.home(5, 24),
            x -> x.run(2001), x -> x.run(-1), x -> x.least(0, 9, 0, 0), x -> x.sight(0, 5, 9), x -> x.sight(0, 160, 10),
            x -> x.distance(0, -1, true), x -> x.ahead(1, 1, 0), x -> x.charter(0, 1001, 0), x -> x.charter(1, 0, 100001),
            x -> x.freight(0), x -> x.market(0, 5), x -> x.market(50, 1001), x -> x.sale(0), x -> x.sale(4), x -> x.count(5),
            x -> x.findings(6)};
        Edges.State[] states = {Seas::atFirst, Seas::underWay};
        for (int s = 0; s < 2; s++) {
            TeaRace x = states[s].made();
            for (int i = 0; i < refused.length; i++) {
                long answer = refused[i].on(x);
                Check.holds("refusal " + i + " answered " + answer, answer == -1 || answer == -3 || answer == -4);
            }
            int[] found = {4, 3, 1, 0, 1};
            for (int f = 1; f <= 5; f++) {
                Check.due("findings(" + f + ")", x.findings(f), found[f - 1] + states[s].made().findings(f));
            }
            Check.due("finding() of the last one", x.finding(), Edges.UNLIKE);
            Check.holds("all refusals together change nothing", Portrait.of(x).equals(Portrait.of(states[s].made())));
        }
    }

    private static void findings() {
        says("FINDINGS: 1 NOTHING (a CHART that is missing),");
        Edges.finds("tear of a missing chart", TeaRace::new, x -> x.tear(0), 1);
        says("2 BEYOND (a place that there is not),");
        Edges.finds("wind at no place", Seas::atFirst, x -> x.wind(0, 160, 0), 2);
        Edges.finds("copy to no place", Seas::atFirst, x -> x.copy(0, 0, 0, 160, 1), 2);
        says("3 UNLIKE (a SHIP of another KIND),");
        Edges.finds("mark of another kind", Seas::atFirst, x -> x.mark(1, 3), 3);
        says("4 NOUGHT (shared among none),");
        Edges.finds("a mean among none", TeaRace::new, TeaRace::meanPrice, 4);
        says("5 SIZE (fewer than none).");
        Edges.finds("copy of fewer than none", TeaRace::new, x -> x.copy(0, 0, 0, 0, -1), 5);
    }
}

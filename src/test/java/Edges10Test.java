/** Promise 10, tolerance: each sentence that names an edge has a test of its own. */
public final class Edges10Test {
    public static void main(String[] args) {
        Due.sentence("The TOLERANCE: true", Edges10Test::told);
        Due.sentence("false if it is not 0 ..", Edges10Test::tooSmall);
        Due.sentence("false if it is not .. 1000", Edges10Test::tooLarge);
        Due.sentence("false leaves the TOLERANCE as it was", Edges10Test::refused);
        Due.sentence("the TOLERANCE is looked at when WEIGHING", Edges10Test::whenWeighing);
        Due.end();
    }

    private static void told() {
        GateSteps yard = Yards.oneIn(1000);
        for (int thousandths : new int[] {0, 1, 25, 26, 999, 1000, 500}) {
            Due.is("tolerance " + thousandths, true, () -> yard.tolerance(thousandths));
        }
        Due.is("the last one holds", -1, () -> yard.weigh(0, 1501, 0));
        GateSteps other = Yards.oneIn(1000);
        other.tolerance(500);
        Due.is("and is within", 1, () -> other.weigh(0, 1500, 0));
    }

    private static void tooSmall() {
        GateSteps yard = Yards.oneIn(1000);
        for (int thousandths : new int[] {Integer.MIN_VALUE, -1000, -25, -1}) {
            Due.is("tolerance " + thousandths, false, () -> yard.tolerance(thousandths));
        }
        Due.is("tolerance 0", true, () -> yard.tolerance(0));
        Due.is("no difference is within 0", 1, () -> yard.weigh(0, 1000, 0));
    }

    private static void tooLarge() {
        GateSteps yard = Yards.oneIn(1000);
        for (int thousandths : new int[] {1001, 2000, Integer.MAX_VALUE}) {
            Due.is("tolerance " + thousandths, false, () -> yard.tolerance(thousandths));
        }
        Due.is("tolerance 1000", true, () -> yard.tolerance(1000));
        Due.is("twice the weight is within 1000", 1, () -> yard.weigh(0, 2000, 0));
    }

    private static void refused() {
        for (int thousandths : new int[] {Integer.MIN_VALUE, -1, 1001, Integer.MAX_VALUE}) {
            GateSteps asked = Yards.busy();
            asked.tolerance(thousandths);
            Due.same("the yard behind " + thousandths, Picture.of(asked), Picture.of(Yards.busy()));
            GateSteps within = Yards.oneIn(1000);
            within.tolerance(thousandths);
            Due.is("25 are within the first one", 1, () -> within.weigh(0, 1025, 0));
            GateSteps beyond = Yards.oneIn(1000);
            beyond.tolerance(thousandths);
            Due.is("26 are not", -1, () -> beyond.weigh(0, 1026, 0));
        }
    }

    private static void whenWeighing() {
        GateSteps yard = Due.yard(1, 2, 2);
        yard.book(0, 0, 0);
        yard.book(0, 1, 1);
        yard.through(1, 0);
        yard.through(2, 0);
        yard.tolerance(100);
        Due.is("told behind coming through", 1, () -> yard.weigh(0, 1100, 0));
        yard.tolerance(99);
        Due.is("told between two", -2, () -> yard.weigh(1, 1100, 0));
        yard.tolerance(1000);
        Due.is("it stays in lane 2", 2, () -> yard.look(2, 4));
    }
}

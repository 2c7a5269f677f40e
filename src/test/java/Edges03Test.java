/** Promise 3, clear: each sentence that names an edge has a test of its own. */
public final class Edges03Test {
    private static final String NUMBER = Due.number(350);

    public static void main(String[] args) {
        Due.sentence("how many signs it had", Edges03Test::howMany);
        Due.sentence("how many signs it had: none in an empty row", Edges03Test::emptyRow);
        Due.sentence("The row is emptied", Edges03Test::emptied);
        Due.sentence("The row is empty again behind box() and clear().", Edges03Test::emptyBehindBox);
        Due.sentence("The row is emptied, and nothing else", Edges03Test::nothingElse);
        Due.end();
    }

    private static void howMany() {
        for (int i = 1; i <= 11; i++) {
            GateSteps yard = new GateSteps(1, 1);
            Due.type(yard, NUMBER.substring(0, i));
            Due.is("clear", i, yard::clear);
        }
    }

    private static void emptyRow() {
        GateSteps yard = new GateSteps(1, 1);
        Due.is("clear at first", 0, yard::clear);
        yard.sign('A');
        yard.clear();
        Due.is("clear behind clear", 0, yard::clear);
    }

    private static void emptied() {
        for (int i = 1; i <= 11; i++) {
            GateSteps yard = new GateSteps(1, 1);
            Due.type(yard, NUMBER.substring(0, i));
            yard.clear();
            Due.is("signs", 0, () -> yard.count(3));
            Due.is("letter", -1, yard::letter);
            Due.argument("a digit is no first sign", () -> yard.sign('0'));
            Due.is("a letter is", 1, () -> yard.sign('A'));
        }
    }

    private static void emptyBehindBox() {
        GateSteps yard = new GateSteps(1, 1);
        Due.type(yard, NUMBER);
        yard.box(1, false);
        Due.is("clear behind box", 0, yard::clear);
        Due.is("the first sign behind box", 1, () -> yard.sign('A'));
    }

    private static void nothingElse() {
        GateSteps cleared = Yards.busy(NUMBER);
        cleared.clear();
        Due.same("the yard behind clear", Picture.of(cleared), Picture.of(Yards.busy("")));
    }
}

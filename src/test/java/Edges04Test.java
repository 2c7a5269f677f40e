/** Promise 4, letter: each sentence that names an edge has a test of its own. */
public final class Edges04Test {
    public static void main(String[] args) {
        Due.sentence("NONE if there are fewer.", Edges04Test::fewer);
        Due.sentence("The check letter that the first ten signs of the row have", Edges04Test::tenOrEleven);
        Due.sentence("its worth (A 1 .. Z 26, 0 0 .. 9 9) times its place (1 .. 10)", Edges04Test::worthAndPlace);
        Due.sentence("modulo 26: 0 A .. 25 Z", Edges04Test::wrapAround);
        Due.sentence("The row is empty again behind box() and clear().", Edges04Test::emptyAgain);
        Due.sentence("letter() asks, and changes nothing", Edges04Test::nothingChanged);
        Due.end();
    }

    private static void letterOf(String signs, char due) {
        GateSteps yard = new GateSteps(1, 1);
        Due.type(yard, signs);
        Due.is("letter of " + signs, (int) due, yard::letter);
    }

    private static void fewer() {
        GateSteps yard = new GateSteps(1, 1);
        for (int i = 0; i < 10; i++) {
            Due.is("letter of " + i, -1, yard::letter);
            yard.sign("AAAA000000".charAt(i));
        }
        Due.is("letter of ten", (int) 'K', yard::letter);
    }

    private static void tenOrEleven() {
        letterOf("AAAA000000", 'K');
        letterOf("AAAA000000K", 'K');
        letterOf("AAAA000000A", 'K');
        letterOf("AAAA000000Z", 'K');
    }

    private static void worthAndPlace() {
        // four A and six 0 are a sum of 10; another sign adds its worth, less that of A or 0, times its place
        letterOf("BAAA000000", 'L');
        letterOf("ABAA000000", 'M');
        letterOf("AABA000000", 'N');
        letterOf("AAAB000000", 'O');
        letterOf("AAAA100000", 'P');
        letterOf("AAAA010000", 'Q');
        letterOf("AAAA001000", 'R');
        letterOf("AAAA000100", 'S');
        letterOf("AAAA000010", 'T');
        letterOf("AAAA000001", 'U');
        letterOf("ZAAA000000", 'J');
        letterOf("AZAA000000", 'I');
        letterOf("AAZA000000", 'H');
        letterOf("AAAZ000000", 'G');
        letterOf("AAAA900000", 'D');
        letterOf("AAAA090000", 'M');
        letterOf("AAAA009000", 'V');
        letterOf("AAAA000900", 'E');
        letterOf("AAAA000090", 'N');
        letterOf("AAAA000009", 'W');
        letterOf("ZZZZ999999", 'P');
    }

    private static void wrapAround() {
        // sums of 25, 26, 27, then of 51, 52, 53
        letterOf("AAAA300000", 'Z');
        letterOf("AAAA010001", 'A');
        letterOf("AAAA001001", 'B');
        letterOf("AAAA310002", 'Z');
        letterOf("AAAA301002", 'A');
        letterOf("AAAA300102", 'B');
    }

    private static void emptyAgain() {
        GateSteps yard = new GateSteps(1, 1);
        Due.type(yard, Due.number(1));
        yard.box(1, false);
        Due.is("letter behind box", -1, yard::letter);
        Due.type(yard, Due.number(2));
        yard.clear();
        Due.is("letter behind clear", -1, yard::letter);
        Due.type(yard, "AAAA00000");
        Due.is("letter of nine behind clear", -1, yard::letter);
    }

    private static void nothingChanged() {
        GateSteps asked = Yards.busy("AAAA000000");
        asked.letter();
        Due.same("the yard behind letter", Picture.of(asked), Picture.of(Yards.busy("AAAA000000")));
    }
}

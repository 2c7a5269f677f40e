/** Promise 15, at: each sentence that names an edge has a test of its own. */
public final class Edges15Test {
    public static void main(String[] args) {
        Due.sentence("The sign at a place 0 .. 9 of a box's NUMBER.", Edges15Test::places);
        Due.sentence("The sign .. of a box's NUMBER: of each box its own", Edges15Test::ofEachBox);
        Due.sentence("IndexOutOfBoundsException if there is none such: no such box", Edges15Test::noSuchBox);
        Due.sentence("IndexOutOfBoundsException if there is none such: no such place", Edges15Test::noSuchPlace);
        Due.sentence("a NUMBER is not what stands in the row", Edges15Test::notTheRow);
        Due.sentence("What throws changes nothing.", Edges15Test::nothingChanged);
        Due.end();
    }

    private static GateSteps yardOf(String... tens) {
        GateSteps yard = new GateSteps(1, 1);
        for (String ten : tens) {
            Due.type(yard, ten + Due.checkLetter(ten));
            yard.box(1, false);
        }
        return yard;
    }

    private static void numberIs(GateSteps yard, int box, String ten) {
        for (int i = 0; i < 10; i++) {
            int place = i;
            Due.is("place " + i + " of box " + box, (int) ten.charAt(place), () -> yard.at(box, place));
        }
    }

    private static void places() {
        numberIs(yardOf("ABCD012345"), 0, "ABCD012345");
        numberIs(yardOf("AAAA000000"), 0, "AAAA000000");
        numberIs(yardOf("ZZZZ999999"), 0, "ZZZZ999999");
    }

    private static void ofEachBox() {
        String[] tens = new String[20];
        for (int i = 0; i < 20; i++) {
            tens[i] = "ABCDEFGHIJKLMNOPQRSTUVWXYZ".substring(i, i + 4) + (123456 + 41111 * i);
        }
        GateSteps yard = yardOf(tens);
        for (int i = 0; i < 20; i++) {
            numberIs(yard, i, tens[i]);
        }
    }

    private static void noSuchBox() {
        GateSteps none = new GateSteps(1, 1);
        GateSteps two = Due.yard(1, 1, 2);
        GateSteps twenty = Yards.twentyBoxes("");
        for (int place : new int[] {0, 9}) {
            Due.index("box 0 of none", () -> none.at(0, place));
            for (int box : new int[] {Integer.MIN_VALUE, -1, 2, 19, 20, Integer.MAX_VALUE}) {
                Due.index("box " + box + " of two", () -> two.at(box, place));
            }
            Due.index("box 20 of twenty", () -> twenty.at(20, place));
        }
        Due.is("box 19 of twenty", (int) '9', () -> twenty.at(19, 9));
        GateSteps refused = new GateSteps(1, 1);
        Due.type(refused, "AAAA000000L");
        refused.box(1, false);
        Due.index("a box that was refused", () -> refused.at(0, 0));
    }

    private static void noSuchPlace() {
        GateSteps yard = Due.yard(1, 1, 3);
        for (int b = 0; b < 3; b++) {
            int box = b;
            for (int place : new int[] {Integer.MIN_VALUE, -10, -1, 10, 11, 20, Integer.MAX_VALUE}) {
                Due.index("place " + place + " of box " + box, () -> yard.at(box, place));
            }
        }
    }

    private static void notTheRow() {
        GateSteps yard = yardOf("ABCD012345");
        Due.type(yard, "WXYZ987654");
        numberIs(yard, 0, "ABCD012345");
        GateSteps typed = new GateSteps(1, 1);
        Due.type(typed, "AAAA000000K");
        Due.index("eleven signs are no box yet", () -> typed.at(0, 0));
    }

    private static void nothingChanged() {
        Due.refused("no box", "IndexOutOfBoundsException", Yards::busy, y -> y.at(6, 0));
        Due.refused("no place", "IndexOutOfBoundsException", Yards::busy, y -> y.at(5, 10));
    }
}

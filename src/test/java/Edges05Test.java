/** Promise 5, box: each sentence that names an edge has a test of its own. */
public final class Edges05Test {
    private static final String NUMBER = Due.number(77);

    public static void main(String[] args) {
        Due.sentence("its own number", Edges05Test::ownNumbers);
        Due.sentence("NONE if the check letter is wrong", Edges05Test::wrongLetter);
        Due.sentence("NONE if .. a box has that NUMBER", Edges05Test::knownNumber);
        Due.sentence("a box that is DONE is gone, but has its NUMBER", Edges05Test::numberOfOneThatIsGone);
        Due.sentence("(the row is emptied then, too): a wrong letter", Edges05Test::emptiedByWrongLetter);
        Due.sentence("(the row is emptied then, too): a known number", Edges05Test::emptiedByKnownNumber);
        Due.sentence("The row is empty again behind box()", Edges05Test::emptiedByBox);
        Due.sentence("IllegalArgumentException if there are not eleven signs", Edges05Test::notEleven);
        Due.sentence("or the weight can't be: too small", Edges05Test::tooLight);
        Due.sentence("or the weight can't be: too large", Edges05Test::tooHeavy);
        Due.sentence("IllegalStateException if there are 20.", Edges05Test::twenty);
        Due.sentence("Of several exceptions the one told first is thrown.", Edges05Test::order);
        Due.sentence("an exception is thrown ahead of NONE", Edges05Test::aheadOfNone);
        Due.sentence("What throws changes nothing.", Edges05Test::nothingChanged);
        Due.end();
    }

    private static void ownNumbers() {
        GateSteps yard = new GateSteps(1, 1);
        for (int i = 0; i < 20; i++) {
            int box = i;
            Due.is("box " + i, box, () -> Due.addBox(yard, box, 1, box % 2 == 0));
        }
    }

    private static void wrongLetter() {
        String ten = NUMBER.substring(0, 10);
        for (char c = 'A'; c <= 'Z'; c++) {
            GateSteps yard = new GateSteps(1, 1);
            Due.type(yard, ten + c);
            Due.is("box with " + c, c == NUMBER.charAt(10) ? 0 : -1, () -> yard.box(1, false));
            Due.is("boxes", c == NUMBER.charAt(10) ? 1 : 0, () -> yard.count(2));
        }
    }

    private static void knownNumber() {
        GateSteps yard = Due.yard(1, 1, 8);
        for (int i = 0; i < 8; i++) {
            int box = i;
            Due.is("number " + i + " again", -1, () -> Due.addBox(yard, box, 5, true));
        }
        Due.is("boxes", 8, () -> yard.count(2));
        for (String ten : new String[] {"RRST000000", "QRSU000000", "QRST100000", "QRST000008"}) {
            Due.type(yard, ten + Due.checkLetter(ten));
            Due.is("a number with one sign of its own", yard.count(2), () -> yard.box(5, true));
        }
    }

    private static void numberOfOneThatIsGone() {
        GateSteps yard = Yards.oneIn(1000);
        yard.weigh(0, 1000, 0);
        Due.is("number of the box that is gone", -1, () -> Due.addBox(yard, 0, 1000, false));
    }

    private static void emptied(GateSteps yard) {
        Due.is("signs", 0, () -> yard.count(3));
        Due.is("letter", -1, yard::letter);
        Due.is("the first sign", 1, () -> yard.sign('A'));
    }

    private static void emptiedByWrongLetter() {
        GateSteps yard = new GateSteps(1, 1);
        Due.type(yard, "AAAA000000L");
        Due.is("wrong letter", -1, () -> yard.box(1, false));
        emptied(yard);
    }

    private static void emptiedByKnownNumber() {
        GateSteps yard = Due.yard(1, 1, 1);
        Due.is("known number", -1, () -> Due.addBox(yard, 0, 1, false));
        emptied(yard);
    }

    private static void emptiedByBox() {
        GateSteps yard = new GateSteps(1, 1);
        Due.type(yard, "AAAA000000K");
        Due.is("box", 0, () -> yard.box(1, false));
        emptied(yard);
    }

    private static void notEleven() {
        GateSteps yard = new GateSteps(1, 1);
        for (int i = 0; i < 11; i++) {
            Due.argument("box with " + i, () -> yard.box(1, false));
            yard.sign(NUMBER.charAt(i));
        }
        Due.is("box with eleven", 0, () -> yard.box(1, false));
        Due.argument("box behind box", () -> yard.box(1, false));
    }

    private static void tooLight() {
        GateSteps yard = new GateSteps(1, 1);
        Due.type(yard, NUMBER);
        for (int weight : new int[] {Integer.MIN_VALUE, -1000, -1, 0}) {
            Due.argument("weight " + weight, () -> yard.box(weight, false));
        }
        Due.is("weight 1", 0, () -> yard.box(1, false));
    }

    private static void tooHeavy() {
        GateSteps yard = new GateSteps(1, 1);
        Due.type(yard, NUMBER);
        for (int weight : new int[] {100001, 200000, Integer.MAX_VALUE}) {
            Due.argument("weight " + weight, () -> yard.box(weight, false));
        }
        Due.is("weight 100000", 0, () -> yard.box(100000, false));
    }

    private static void twenty() {
        GateSteps yard = new GateSteps(1, 1);
        for (int i = 0; i < 19; i++) {
            Due.addBox(yard, i, 1, false);
        }
        Due.is("the twentieth", 19, () -> Due.addBox(yard, 19, 1, false));
        Due.type(yard, Due.number(20));
        Due.state("one more", () -> yard.box(1, false));
        Due.state("and again", () -> yard.box(1, true));
        Due.is("boxes", 20, () -> yard.count(2));
    }

    private static void order() {
        String eleven = Due.number(20);
        Due.argument("ten signs with 20", () -> Yards.twentyBoxes(eleven.substring(0, 10)).box(1, false));
        Due.argument("no signs with 20", () -> Yards.twentyBoxes("").box(1, false));
        Due.argument("weight 0 with 20", () -> Yards.twentyBoxes(eleven).box(0, false));
        Due.argument("weight 100001 with 20", () -> Yards.twentyBoxes(eleven).box(100001, false));
    }

    private static void aheadOfNone() {
        GateSteps wrong = new GateSteps(1, 1);
        Due.type(wrong, "AAAA000000L");
        Due.argument("weight 0 of a wrong letter", () -> wrong.box(0, false));
        GateSteps known = Due.yard(1, 1, 1);
        Due.type(known, Due.number(0));
        Due.argument("weight 100001 of a known number", () -> known.box(100001, false));
        Due.state("a wrong letter with 20", () -> Yards.twentyBoxes("AAAA000000L").box(1, false));
        Due.state("a known number with 20", () -> Yards.twentyBoxes(Due.number(0)).box(1, false));
    }

    private static void nothingChanged() {
        Due.refused("ten signs", "IllegalArgumentException",
            () -> Yards.busy(NUMBER.substring(0, 10)), y -> y.box(1, false));
        Due.refused("weight 0", "IllegalArgumentException", () -> Yards.busy(NUMBER), y -> y.box(0, false));
        Due.refused("weight 100001", "IllegalArgumentException", () -> Yards.busy(NUMBER), y -> y.box(100001, true));
        Due.refused("one more than 20", "IllegalStateException",
            () -> Yards.twentyBoxes(Due.number(20)), y -> y.box(1, false));
        GateSteps yard = new GateSteps(1, 1);
        Due.type(yard, NUMBER);
        Due.argument("weight 0", () -> yard.box(0, false));
        Due.is("the signs stay, so the next one is a box", 0, () -> yard.box(1, false));
    }
}

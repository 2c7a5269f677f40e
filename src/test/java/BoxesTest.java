/** Promises 5 and 15: box, at. */
public final class BoxesTest {
    public static void main(String[] args) {
        numbersOfBoxes();
        wrongCheckLetter();
        sameNumber();
        tooFewSigns();
        weights();
        twentyBoxes();
        places();
        Due.end();
    }

    private static void numbersOfBoxes() {
        GateSteps yard = new GateSteps(1, 1);
        for (int i = 0; i < 3; i++) {
            int box = i;
            Due.is("box " + i, box, () -> Due.addBox(yard, box, 5, true));
            Due.is("the row behind box " + i, 0, () -> yard.count(3));
            Due.is("boxes", box + 1, () -> yard.count(2));
        }
    }

    private static void wrongCheckLetter() {
        GateSteps yard = new GateSteps(1, 1);
        String number = Due.number(4);
        for (char c = 'A'; c <= 'Z'; c++) {
            if (c != number.charAt(10)) {
                Due.type(yard, number.substring(0, 10) + c);
                Due.is("check letter " + c, -1, () -> yard.box(5, false));
                Due.is("the row behind a wrong letter", 0, () -> yard.count(3));
            }
        }
        Due.is("no boxes with a wrong letter", 0, () -> yard.count(2));
        Due.is("the right letter", 0, () -> Due.addBox(yard, 4, 5, false));
    }

    private static void sameNumber() {
        GateSteps yard = new GateSteps(1, 1);
        for (int i = 0; i < 3; i++) {
            Due.addBox(yard, i, 5, false);
        }
        for (int i = 0; i < 3; i++) {
            int box = i;
            Due.is("number " + i + " again", -1, () -> Due.addBox(yard, box, 6, true));
            Due.is("the row behind a known number", 0, () -> yard.count(3));
        }
        Due.is("boxes behind known numbers", 3, () -> yard.count(2));
        Due.type(yard, "ARST000000" + Due.checkLetter("ARST000000"));
        Due.is("another first sign", 3, () -> yard.box(5, false));
        Due.type(yard, "QRST000009" + Due.checkLetter("QRST000009"));
        Due.is("another tenth sign", 4, () -> yard.box(5, false));
    }

    private static void tooFewSigns() {
        GateSteps yard = new GateSteps(1, 1);
        String number = Due.number(5);
        for (int i = 0; i < 11; i++) {
            int had = i;
            Due.argument("box with " + i + " signs", () -> yard.box(5, false));
            Due.is("signs stay", had, () -> yard.count(3));
            yard.sign(number.charAt(i));
        }
        Due.is("box with eleven", 0, () -> yard.box(5, false));
    }

    private static void weights() {
        GateSteps yard = new GateSteps(1, 1);
        Due.type(yard, Due.number(0));
        for (int weight : new int[] {Integer.MIN_VALUE, -1, 0, 100001, Integer.MAX_VALUE}) {
            Due.argument("weight " + weight, () -> yard.box(weight, false));
        }
        Due.is("signs behind a wrong weight", 11, () -> yard.count(3));
        Due.is("weight 1", 0, () -> yard.box(1, false));
        Due.is("weight 100000", 1, () -> Due.addBox(yard, 1, 100000, false));
        Due.type(yard, Due.number(1));
        Due.argument("a wrong weight ahead of a known number", () -> yard.box(0, false));
    }

    private static void twentyBoxes() {
        GateSteps yard = new GateSteps(1, 1);
        for (int i = 0; i < 20; i++) {
            int box = i;
            Due.is("box of twenty", box, () -> Due.addBox(yard, box, 5, false));
        }
        Due.argument("no signs ahead of too many boxes", () -> yard.box(5, false));
        Due.type(yard, Due.number(20));
        Due.argument("a wrong weight ahead of too many boxes", () -> yard.box(0, false));
        Due.state("box 21", () -> yard.box(5, false));
        Due.is("signs stay behind box 21", 11, () -> yard.count(3));
        yard.clear();
        Due.type(yard, Due.number(0));
        Due.state("a known number with 20", () -> yard.box(5, false));
        yard.clear();
        Due.type(yard, "AAAA000000A");
        Due.state("a wrong letter with 20", () -> yard.box(5, false));
        Due.is("boxes", 20, () -> yard.count(2));
    }

    private static void places() {
        GateSteps yard = new GateSteps(1, 1);
        Due.index("at without boxes", () -> yard.at(0, 0));
        for (int i = 0; i < 20; i++) {
            Due.addBox(yard, 100000 + i * 1234, 5, false);
        }
        for (int i = 0; i < 20; i++) {
            int box = i;
            String number = Due.number(100000 + i * 1234);
            for (int j = 0; j < 10; j++) {
                int place = j;
                Due.is("at " + box + ", " + place, (int) number.charAt(place), () -> yard.at(box, place));
            }
        }
        for (int place : new int[] {Integer.MIN_VALUE, -1, 10, 11, Integer.MAX_VALUE}) {
            Due.index("place " + place + " of the first box", () -> yard.at(0, place));
            Due.index("place " + place + " of the last box", () -> yard.at(19, place));
        }
        for (int box : new int[] {Integer.MIN_VALUE, -1, 20, 21, Integer.MAX_VALUE}) {
            Due.index("at box " + box, () -> yard.at(box, 0));
        }
    }
}

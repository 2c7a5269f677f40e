/** Promises 2, 3 and 4: sign, clear, letter. */
public final class SignsTest {
    public static void main(String[] args) {
        placesOfSigns();
        wrongSigns();
        fullRow();
        clearing();
        letters();
        Due.end();
    }

    private static void placesOfSigns() {
        GateSteps yard = new GateSteps(1, 1);
        for (int i = 0; i < 11; i++) {
            boolean digit = i >= 4 && i < 10;
            char misfitLow = digit ? 'A' : '0';
            char misfitHigh = digit ? 'Z' : '9';
            char fit = i % 2 == 0 ? (digit ? '0' : 'A') : (digit ? '9' : 'Z');
            int had = i;
            Due.argument("misfit " + misfitLow + " at " + i, () -> yard.sign(misfitLow));
            Due.argument("misfit " + misfitHigh + " at " + i, () -> yard.sign(misfitHigh));
            Due.is("signs behind a misfit", had, () -> yard.count(3));
            Due.is("fit " + fit + " at " + i, had + 1, () -> yard.sign(fit));
        }
    }

    private static void wrongSigns() {
        int[] wrong = {Integer.MIN_VALUE, -1, 0, ' ', '/', ':', '@', '[', 'a', 'z', 'A' + 65536, '0' + 256, Integer.MAX_VALUE};
        String number = Due.number(1);
        GateSteps yard = new GateSteps(1, 1);
        for (int i = 0; i <= 11; i++) {
            for (int c : wrong) {
                Due.argument("sign " + c + " with " + i, () -> yard.sign(c));
            }
            int had = i;
            Due.is("signs behind wrong ones", had, () -> yard.count(3));
            if (i < 11) {
                yard.sign(number.charAt(i));
            }
        }
    }

    private static void fullRow() {
        GateSteps yard = new GateSteps(1, 1);
        Due.type(yard, Due.number(7));
        for (char c : new char[] {'A', 'Z', '0', '9'}) {
            Due.state("sign " + c + " on a full row", () -> yard.sign(c));
        }
        Due.is("a full row stays", 11, () -> yard.count(3));
        Due.is("and is a box's number", 0, () -> yard.box(1, false));
    }

    private static void clearing() {
        GateSteps yard = new GateSteps(1, 1);
        String number = Due.number(3);
        for (int i = 0; i <= 11; i++) {
            int had = i;
            Due.type(yard, number.substring(0, i));
            Due.is("clear of " + i, had, yard::clear);
            Due.is("clear again", 0, yard::clear);
            Due.is("signs when cleared", 0, () -> yard.count(3));
            Due.is("letter when cleared", -1, yard::letter);
        }
    }

    private static void letters() {
        letter("ABCD123456", 'X');
        letter("AAAA000000", 'K');
        letter("ZZZZ999999", 'P');
        letter("QQQQ111111", 'H');
        letter("QQQQ111112", 'R');
        letter("AAAA200001", 'E');
        // sums of 26 and 25: the first and the last letter
        letter("AAAA010001", 'A');
        letter("AAAA100001", 'Z');
        GateSteps yard = new GateSteps(1, 1);
        for (int i = 0; i < 10; i++) {
            Due.is("letter of " + i, -1, yard::letter);
            yard.sign(Due.number(9).charAt(i));
        }
        Due.is("letter of ten", (int) Due.number(9).charAt(10), yard::letter);
    }

    private static void letter(String ten, char due) {
        GateSteps yard = new GateSteps(1, 1);
        Due.type(yard, ten);
        Due.is("letter of " + ten, (int) due, yard::letter);
        Due.is("letter changes nothing", 10, () -> yard.count(3));
        yard.sign(due == 'A' ? 'B' : 'A');
        Due.is("letter with a wrong eleventh of " + ten, (int) due, yard::letter);
    }
}

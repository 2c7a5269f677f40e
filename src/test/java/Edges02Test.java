/** Promise 2, sign: each sentence that names an edge has a test of its own. */
public final class Edges02Test {
    private static final String NUMBER = Due.number(907);

    public static void main(String[] args) {
        Due.sentence("One more sign: how many stand in the row.", Edges02Test::oneMore);
        Due.sentence("4 letters A .. Z, 6 digits, the check letter", Edges02Test::outermostSigns);
        Due.sentence("IllegalArgumentException if it is neither A .. Z nor 0 .. 9", Edges02Test::noSign);
        Due.sentence("or, with less than 11, does not fit its place", Edges02Test::misfit);
        Due.sentence("IllegalStateException if there are 11.", Edges02Test::eleven);
        Due.sentence("Of several exceptions the one told first is thrown.", Edges02Test::noSignWithEleven);
        Due.sentence("What throws changes nothing.", Edges02Test::nothingChanged);
        Due.end();
    }

    private static void oneMore() {
        GateSteps yard = new GateSteps(1, 1);
        for (int i = 0; i < 11; i++) {
            int had = i;
            Due.is("sign " + (i + 1), had + 1, () -> yard.sign(NUMBER.charAt(had)));
        }
    }

    private static void outermostSigns() {
        for (String signs : new String[] {"AAAA000000A", "ZZZZ999999Z"}) {
            GateSteps yard = new GateSteps(1, 1);
            for (int i = 0; i < 11; i++) {
                int had = i;
                Due.is("sign " + signs.charAt(i), had + 1, () -> yard.sign(signs.charAt(had)));
            }
        }
    }

    private static void noSign() {
        int[] none = {Integer.MIN_VALUE, -65, -1, 0, 9, 26, '/', ':', '@', '[', 'a', 'z', 0xC4,
            'A' + 256, '0' + 256, 'A' + 65536, '0' + 65536, Integer.MAX_VALUE};
        for (int i = 0; i < 11; i++) {
            GateSteps yard = new GateSteps(1, 1);
            Due.type(yard, NUMBER.substring(0, i));
            for (int c : none) {
                Due.argument(c + " behind " + i, () -> yard.sign(c));
            }
        }
    }

    private static void misfit() {
        for (int i = 0; i < 11; i++) {
            GateSteps yard = new GateSteps(1, 1);
            Due.type(yard, NUMBER.substring(0, i));
            String misfits = i < 4 || i == 10 ? "0123456789" : "ABCDEFGHIJKLMNOPQRSTUVWXYZ";
            for (char c : misfits.toCharArray()) {
                Due.argument(c + " behind " + i, () -> yard.sign(c));
            }
        }
    }

    private static void eleven() {
        GateSteps yard = new GateSteps(1, 1);
        Due.type(yard, NUMBER.substring(0, 10));
        Due.is("the eleventh", 11, () -> yard.sign('A'));
        for (char c : "AQZ059".toCharArray()) {
            Due.state(c + " behind 11", () -> yard.sign(c));
        }
    }

    private static void noSignWithEleven() {
        GateSteps yard = new GateSteps(1, 1);
        Due.type(yard, NUMBER);
        for (int c : new int[] {Integer.MIN_VALUE, -1, '/', ':', '@', '[', 'a', Integer.MAX_VALUE}) {
            Due.argument(c + " behind 11", () -> yard.sign(c));
        }
    }

    private static void nothingChanged() {
        for (int i = 0; i <= 11; i++) {
            String signs = NUMBER.substring(0, i);
            Due.refused("no sign", "IllegalArgumentException", () -> Yards.busy(signs), y -> y.sign('-'));
        }
        Due.refused("no letter", "IllegalArgumentException", Yards::busy, y -> y.sign('0'));
        Due.refused("no digit", "IllegalArgumentException", () -> Yards.busy("QRST"), y -> y.sign('A'));
        Due.refused("one more", "IllegalStateException", () -> Yards.busy(NUMBER), y -> y.sign('A'));
        GateSteps yard = new GateSteps(1, 1);
        Due.type(yard, NUMBER);
        Due.state("one more", () -> yard.sign('A'));
        Due.is("the eleven make the box", 0, () -> yard.box(1, false));
        Due.is("with its own signs", (int) NUMBER.charAt(9), () -> yard.at(0, 9));
    }
}

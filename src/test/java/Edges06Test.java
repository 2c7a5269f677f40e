/** Promise 6, check: each sentence that names an edge has a test of its own. */
public final class Edges06Test {
    /** The bar of each kind 0 to 5 that is bad, as through answers it. */
    private static final int[] BARS = {-5, -6, -7, -8, -3, -4};

    public static void main(String[] args) {
        Due.sentence("IllegalArgumentException if there is no such kind", Edges06Test::noSuchKind);
        Due.sentence("(ahead of all else)", Edges06Test::kindAheadOfAll);
        Due.sentence("a kind 0 .. 3 of a box", Edges06Test::kindsOfBoxes);
        Due.sentence("or 4, 5 of a truck", Edges06Test::kindsOfTrucks);
        Due.sentence("IndexOutOfBoundsException if there is no such box", Edges06Test::noSuchBox);
        Due.sentence("IndexOutOfBoundsException if there is no such .. truck", Edges06Test::noSuchTruck);
        Due.sentence("IllegalArgumentException if the verdict can't be", Edges06Test::noSuchVerdict);
        Due.sentence("Doubtful can be SEAL and DAMAGE alone.", Edges06Test::doubtful);
        Due.sentence("Of several exceptions the one told first is thrown.", Edges06Test::indexAheadOfVerdict);
        Due.sentence("What throws changes nothing.", Edges06Test::nothingChanged);
        Due.sentence("how many bookings are ENDED by it", Edges06Test::howMany);
        Due.sentence("WITHDRAWN is a box's RELEASE by making it bad: by no other verdict", Edges06Test::noOtherVerdict);
        Due.sentence("an IN booking of it: no OPEN, DONE or ENDED one", Edges06Test::inAlone);
        Due.sentence("leaves its lane: the first, a middle one, the last", Edges06Test::leavesItsLane);
        Due.sentence("leaves its lane: the one it was sent to", Edges06Test::leavesLaneTwo);
        Due.sentence("and is ENDED: what it held is free", Edges06Test::freed);
        Due.end();
    }

    private static void noSuchKind() {
        GateSteps yard = Due.yard(1, 1, 1);
        for (int kind : new int[] {Integer.MIN_VALUE, -6, -1, 6, 7, 100, Integer.MAX_VALUE}) {
            for (int v = 0; v <= 2; v++) {
                int verdict = v;
                Due.argument("kind " + kind, () -> yard.check(kind, 0, verdict));
            }
        }
    }

    private static void kindAheadOfAll() {
        GateSteps yard = new GateSteps(1, 1);
        for (int kind : new int[] {Integer.MIN_VALUE, -1, 6, Integer.MAX_VALUE}) {
            for (int of : new int[] {Integer.MIN_VALUE, -1, 0, 16, Integer.MAX_VALUE}) {
                Due.argument("kind " + kind + " of " + of, () -> yard.check(kind, of, 1));
                Due.argument("kind " + kind + " of " + of + ", no verdict", () -> yard.check(kind, of, 3));
            }
        }
    }

    private static void barOf(int kind, int of) {
        GateSteps yard = new GateSteps(1, 1);
        for (int i = 0; i < 16; i++) {
            Due.addBox(yard, i, 1, true);
        }
        yard.check(0, of, 1);
        yard.book(0, of, of);
        Due.is("kind " + kind + " of " + of + " is bad", 0, () -> yard.check(kind, of, 0));
        Due.is("its bar", BARS[kind], () -> yard.through(1, 0));
        Due.is("kind " + kind + " of " + of + " is good", 0, () -> yard.check(kind, of, 1));
        Due.is("no bar", 1, () -> yard.through(1, 0));
    }

    private static void kindsOfBoxes() {
        for (int kind = 0; kind <= 3; kind++) {
            barOf(kind, 0);
            barOf(kind, 15);
        }
    }

    private static void kindsOfTrucks() {
        for (int kind = 4; kind <= 5; kind++) {
            barOf(kind, 0);
            barOf(kind, 15);
        }
    }

    private static void noSuchBox() {
        GateSteps none = new GateSteps(1, 1);
        GateSteps two = Due.yard(1, 1, 2);
        GateSteps twenty = Yards.twentyBoxes("");
        for (int k = 0; k <= 3; k++) {
            int kind = k;
            Due.index("box 0 of none", () -> none.check(kind, 0, 1));
            for (int box : new int[] {Integer.MIN_VALUE, -1, 2, 15, 20, Integer.MAX_VALUE}) {
                Due.index("box " + box + " of two", () -> two.check(kind, box, 1));
            }
            Due.is("box 1 of two", 0, () -> two.check(kind, 1, 1));
            Due.is("box 19 of twenty", 0, () -> twenty.check(kind, 19, 1));
            Due.index("box 20 of twenty", () -> twenty.check(kind, 20, 1));
        }
    }

    private static void noSuchTruck() {
        GateSteps none = new GateSteps(1, 1);
        GateSteps twenty = Yards.twentyBoxes("");
        for (int k = 4; k <= 5; k++) {
            int kind = k;
            for (int truck : new int[] {Integer.MIN_VALUE, -1, 16, 19, Integer.MAX_VALUE}) {
                Due.index("truck " + truck, () -> none.check(kind, truck, 1));
                Due.index("truck " + truck + " with 20 boxes", () -> twenty.check(kind, truck, 1));
            }
            Due.is("truck 0", 0, () -> none.check(kind, 0, 1));
            Due.is("truck 15", 0, () -> none.check(kind, 15, 1));
        }
    }

    private static void noSuchVerdict() {
        GateSteps yard = Due.yard(1, 1, 1);
        for (int k = 0; k <= 5; k++) {
            int kind = k;
            for (int verdict : new int[] {Integer.MIN_VALUE, -2, -1, 3, 4, 256, Integer.MAX_VALUE}) {
                Due.argument("verdict " + verdict + " of kind " + kind, () -> yard.check(kind, 0, verdict));
            }
            Due.is("bad of kind " + kind, 0, () -> yard.check(kind, 0, 0));
            Due.is("good of kind " + kind, 0, () -> yard.check(kind, 0, 1));
        }
    }

    private static void doubtful() {
        GateSteps yard = Due.yard(1, 1, 1);
        Due.argument("RELEASE", () -> yard.check(0, 0, 2));
        Due.is("SEAL", 0, () -> yard.check(1, 0, 2));
        Due.is("DAMAGE", 0, () -> yard.check(2, 0, 2));
        Due.argument("PAPERS", () -> yard.check(3, 0, 2));
        Due.argument("RIGHTS", () -> yard.check(4, 0, 2));
        Due.argument("DRIVER", () -> yard.check(5, 0, 2));
    }

    private static void indexAheadOfVerdict() {
        GateSteps yard = Due.yard(1, 1, 1);
        for (int k = 0; k <= 5; k++) {
            int kind = k;
            int behind = kind < 4 ? 1 : 16;
            for (int verdict : new int[] {Integer.MIN_VALUE, -1, 2, 3, Integer.MAX_VALUE}) {
                Due.index("none, verdict " + verdict, () -> yard.check(kind, -1, verdict));
                Due.index("one behind, verdict " + verdict, () -> yard.check(kind, behind, verdict));
            }
        }
    }

    private static void nothingChanged() {
        Due.refused("no kind", "IllegalArgumentException", Yards::busy, y -> y.check(6, 3, 0));
        Due.refused("no kind", "IllegalArgumentException", Yards::busy, y -> y.check(-1, 3, 0));
        Due.refused("no box", "IndexOutOfBoundsException", Yards::busy, y -> y.check(0, 6, 0));
        Due.refused("no truck", "IndexOutOfBoundsException", Yards::busy, y -> y.check(4, 16, 0));
        for (int k = 0; k <= 5; k++) {
            int kind = k;
            for (int verdict : new int[] {-1, 3}) {
                Due.refused("no verdict", "IllegalArgumentException", Yards::busy, y -> y.check(kind, 3, verdict));
            }
            if (kind != 1 && kind != 2) {
                Due.refused("no doubt", "IllegalArgumentException", Yards::busy, y -> y.check(kind, 3, 2));
            }
        }
        Due.refused("no verdict of one that is IN", "IllegalArgumentException", Yards::busy, y -> y.check(0, 1, 2));
        Due.refused("no verdict of one that is IN", "IllegalArgumentException", Yards::busy, y -> y.check(0, 1, -1));
    }

    private static void howMany() {
        GateSteps yard = Yards.busy();
        Due.is("one that is IN", 1, () -> yard.check(0, 1, 0));
        Due.is("when it is bad already", 0, () -> yard.check(0, 1, 0));
        Due.is("a box without a booking", 0, () -> yard.check(0, 5, 0));
    }

    private static void noOtherVerdict() {
        GateSteps yard = Yards.oneIn(1000);
        Due.is("RELEASE is good", 0, () -> yard.check(0, 0, 1));
        for (int k = 1; k <= 5; k++) {
            int kind = k;
            Due.is("bad of kind " + kind, 0, () -> yard.check(kind, 0, 0));
        }
        Due.is("SEAL is doubtful", 0, () -> yard.check(1, 0, 2));
        Due.is("DAMAGE is doubtful", 0, () -> yard.check(2, 0, 2));
        Due.is("still IN", 1, () -> yard.look(1, 3));
        Due.is("in its lane", 1, () -> yard.queue(0, 0));
    }

    private static void inAlone() {
        GateSteps yard = Yards.busy();
        Due.is("RELEASE of a DONE one", 0, () -> yard.check(0, 0, 0));
        Due.is("stays DONE", 2, () -> yard.look(1, 3));
        Due.is("with its TURN", 40, () -> yard.look(1, 5));
        Due.is("RELEASE of an OPEN one", 0, () -> yard.check(0, 3, 0));
        Due.is("stays OPEN", 0, () -> yard.look(4, 3));
        Due.is("but has a bar", -5, () -> yard.through(4, 650));
        Due.is("RELEASE of an ENDED one", 0, () -> yard.check(0, 4, 0));
        Due.is("stays ENDED", 3, () -> yard.look(5, 3));
        Due.is("slot 0", 2, () -> yard.count(100));
        Due.is("slot 1", 2, () -> yard.count(101));
    }

    private static void leavesItsLane() {
        // lane 0 has 1, 3, 5, 7 and lane 1 has 2, 4, 6, 8
        String[] due = {"3 5 7 -1 2 4 6 8", "1 3 5 7 4 6 8 -1", "1 5 7 -1 2 4 6 8", "1 3 5 7 2 6 8 -1",
            "1 3 7 -1 2 4 6 8", "1 3 5 7 2 4 8 -1", "1 3 5 -1 2 4 6 8", "1 3 5 7 2 4 6 -1"};
        for (int i = 0; i < 8; i++) {
            int box = i;
            GateSteps yard = Due.yard(1, 8, 8);
            for (int j = 0; j < 8; j++) {
                yard.book(0, j, j);
                yard.through(j + 1, 0);
            }
            Due.is("box " + i, 1, () -> yard.check(0, box, 0));
            StringBuilder lanes = new StringBuilder();
            for (int j = 0; j < 8; j++) {
                lanes.append(j == 0 ? "" : " ").append(yard.queue(j / 4, j % 4));
            }
            Due.same("lanes without " + (i + 1), lanes.toString(), due[i]);
            Due.is("lane 0", box % 2 == 0 ? 3 : 4, () -> yard.count(4));
            Due.is("lane 1", box % 2 == 0 ? 4 : 3, () -> yard.count(5));
            Due.is("no lane", -1, () -> yard.look(box + 1, 4));
        }
    }

    private static void leavesLaneTwo() {
        GateSteps yard = Yards.oneIn(1000);
        yard.weigh(0, 0, 0);
        Due.is("sent to lane 2", 1, () -> yard.check(0, 0, 0));
        Due.is("lane 2", 0, () -> yard.count(6));
        Due.is("none to weigh there", 0, () -> yard.weigh(2, 0, 0));
        GateSteps busy = Yards.busy();
        Due.is("came to lane 2", 1, () -> busy.check(0, 2, 0));
        Due.is("lane 2", 0, () -> busy.count(6));
        Due.is("lane 0", 1, () -> busy.count(4));
    }

    private static void freed() {
        GateSteps yard = Due.yard(1, 2, 2);
        yard.book(0, 0, 0);
        yard.book(0, 0, 1);
        yard.through(1, 0);
        Due.is("the truck is IN", -9, () -> yard.through(2, 0));
        yard.check(0, 0, 0);
        Due.is("ENDED", 3, () -> yard.look(1, 3));
        Due.is("the slot has room", 1, () -> yard.count(100));
        Due.is("the truck is free", 1, () -> yard.through(2, 0));
        Due.is("the box can be booked", 3, () -> yard.book(0, 1, 0));
        Due.is("and is not released", -5, () -> yard.through(3, 0));
        yard.check(0, 0, 1);
        Due.is("until it is", 1, () -> yard.through(3, 0));
        Due.is("no TURN of the ENDED one", -1, () -> yard.look(1, 5));
        Due.is("nor is it DONE", 0, () -> yard.count(9));
    }
}

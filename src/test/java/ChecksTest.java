/** Promise 6: check. */
public final class ChecksTest {
    public static void main(String[] args) {
        wrongKinds();
        wrongBoxesAndTrucks();
        verdicts();
        withdrawn();
        withdrawnWithoutOneIn();
        otherKindsEndNothing();
        Due.end();
    }

    private static void wrongKinds() {
        GateSteps yard = Due.yard(1, 1, 1);
        for (int kind : new int[] {Integer.MIN_VALUE, -1, 6, Integer.MAX_VALUE}) {
            Due.argument("kind " + kind, () -> yard.check(kind, 0, 1));
            Due.argument("kind " + kind + " ahead of all else", () -> yard.check(kind, 99, 9));
        }
    }

    private static void wrongBoxesAndTrucks() {
        GateSteps yard = Due.yard(1, 1, 2);
        for (int kind = 0; kind <= 3; kind++) {
            for (int box : new int[] {Integer.MIN_VALUE, -1, 2, 15, Integer.MAX_VALUE}) {
                int k = kind;
                Due.index("kind " + kind + " of box " + box, () -> yard.check(k, box, 1));
                Due.index("box " + box + " ahead of a wrong verdict", () -> yard.check(k, box, 3));
            }
        }
        for (int kind = 4; kind <= 5; kind++) {
            for (int truck : new int[] {Integer.MIN_VALUE, -1, 16, Integer.MAX_VALUE}) {
                int k = kind;
                Due.index("kind " + kind + " of truck " + truck, () -> yard.check(k, truck, 1));
                Due.index("truck " + truck + " ahead of a wrong verdict", () -> yard.check(k, truck, 3));
            }
            int k = kind;
            Due.is("kind " + kind + " of the last truck", 0, () -> yard.check(k, 15, 0));
        }
    }

    private static void verdicts() {
        GateSteps yard = Due.yard(1, 1, 1);
        for (int kind = 0; kind <= 5; kind++) {
            int k = kind;
            for (int verdict : new int[] {Integer.MIN_VALUE, -1, 3, Integer.MAX_VALUE}) {
                Due.argument("verdict " + verdict + " of kind " + kind, () -> yard.check(k, 0, verdict));
            }
            if (kind == 1 || kind == 2) {
                Due.is("doubtful of kind " + kind, 0, () -> yard.check(k, 0, 2));
            } else {
                Due.argument("doubtful of kind " + kind, () -> yard.check(k, 0, 2));
            }
            Due.is("bad of kind " + kind, 0, () -> yard.check(k, 0, 0));
            Due.argument("a wrong verdict of kind " + kind + " when bad", () -> yard.check(k, 0, 5));
            Due.is("good of kind " + kind, 0, () -> yard.check(k, 0, 1));
        }
        yard.book(0, 0, 0);
        Due.argument("a wrong verdict", () -> yard.check(0, 0, 2));
        Due.is("changes nothing", 1, () -> yard.through(1, 0));
    }

    private static void withdrawn() {
        GateSteps yard = Due.yard(1, 8, 5);
        for (int i = 0; i < 5; i++) {
            yard.book(0, i, i);
            yard.through(i + 1, 10);
        }
        // lane 0 has 1, 3, 5 and lane 1 has 2, 4
        Due.is("withdrawn in the middle", 1, () -> yard.check(0, 2, 0));
        Due.is("ended", 3, () -> yard.look(3, 3));
        Due.is("no lane", -1, () -> yard.look(3, 4));
        Due.is("no turn", -1, () -> yard.look(3, 5));
        Due.is("first stays", 1, () -> yard.queue(0, 0));
        Due.is("third moves up", 5, () -> yard.queue(0, 1));
        Due.is("none behind", -1, () -> yard.queue(0, 2));
        Due.is("lane 0", 2, () -> yard.count(4));
        Due.is("lane 1", 2, () -> yard.count(5));
        Due.is("slot", 4, () -> yard.count(100));
        Due.is("withdrawn again", 0, () -> yard.check(0, 2, 0));
        Due.is("released again", 0, () -> yard.check(0, 2, 1));
        Due.is("booked again", 6, () -> yard.book(0, 2, 2));
        Due.is("through again", 1, () -> yard.through(6, 10));
        Due.is("withdrawn in its new lane", 1, () -> yard.check(0, 2, 0));
        Due.is("the first ended one is as it was", 3, () -> yard.look(3, 3));
    }

    private static void withdrawnWithoutOneIn() {
        GateSteps yard = Due.yard(1, 8, 2);
        Due.is("withdrawn without a booking", 0, () -> yard.check(0, 0, 0));
        yard.book(0, 0, 0);
        yard.book(0, 1, 1);
        Due.is("withdrawn when open", 0, () -> yard.check(0, 0, 0));
        Due.is("stays open", 0, () -> yard.look(1, 3));
        Due.is("stays in its slot", 2, () -> yard.count(100));
        yard.through(2, 0);
        yard.weigh(0, 1000, 3);
        Due.is("withdrawn when done", 0, () -> yard.check(0, 1, 0));
        Due.is("stays done", 2, () -> yard.look(2, 3));
        Due.is("keeps its turn", 3, () -> yard.look(2, 5));
    }

    private static void otherKindsEndNothing() {
        GateSteps yard = Due.yard(1, 8, 1);
        yard.book(0, 0, 0);
        yard.through(1, 0);
        for (int kind = 1; kind <= 5; kind++) {
            int k = kind;
            Due.is("bad of kind " + kind + " ends nothing", 0, () -> yard.check(k, 0, 0));
        }
        Due.is("doubtful moves nothing", 0, () -> yard.check(1, 0, 2));
        Due.is("released anew", 0, () -> yard.check(0, 0, 1));
        Due.is("stays in", 1, () -> yard.look(1, 3));
        Due.is("in its lane", 0, () -> yard.look(1, 4));
    }
}

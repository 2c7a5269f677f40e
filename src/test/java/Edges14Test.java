/** Promise 14, look: each sentence that names an edge has a test of its own. */
public final class Edges14Test {
    public static void main(String[] args) {
        Due.sentence("what 0: slot, 1: truck, 2: box", Edges14Test::slotTruckBox);
        Due.sentence("3: 0 OPEN, 1 IN, 2 DONE, 3 ENDED", Edges14Test::states);
        Due.sentence("4: its lane while it is IN", Edges14Test::lanes);
        Due.sentence("4: .. else NONE", Edges14Test::noLane);
        Due.sentence("5: its TURN if it is DONE", Edges14Test::turns);
        Due.sentence("5: .. else NONE", Edges14Test::noTurn);
        Due.sentence("IndexOutOfBoundsException if there is none such: no such booking", Edges14Test::noSuchBooking);
        Due.sentence("IndexOutOfBoundsException if there is none such: no such what", Edges14Test::noSuchWhat);
        Due.sentence("What throws changes nothing.", Edges14Test::nothingChanged);
        Due.end();
    }

    private static void slotTruckBox() {
        GateSteps yard = Due.yard(24, 1, 20);
        yard.book(23, 15, 19);
        yard.book(0, 0, 0);
        int[] last = {23, 15, 19};
        for (int i = 0; i < 3; i++) {
            int what = i;
            Due.is("the outermost, " + i, last[i], () -> yard.look(1, what));
            Due.is("the first, " + i, 0, () -> yard.look(2, what));
        }
        GateSteps busy = Yards.busy();
        for (int b = 1; b <= 5; b++) {
            int booking = b;
            Due.is("slot of any state", booking < 3 ? 0 : 1, () -> busy.look(booking, 0));
            Due.is("truck of any state", booking - 1, () -> busy.look(booking, 1));
            Due.is("box of any state", booking - 1, () -> busy.look(booking, 2));
        }
    }

    private static void states() {
        GateSteps yard = Yards.busy();
        int[] due = {2, 1, 1, 0, 3};
        for (int i = 0; i < 5; i++) {
            int booking = i + 1;
            Due.is("state of " + booking, due[i], () -> yard.look(booking, 3));
        }
        yard.noShow(1320);
        Due.is("not come", 3, () -> yard.look(4, 3));
    }

    private static void lanes() {
        GateSteps yard = Yards.busy();
        yard.through(4, 650);
        Due.is("lane 0", 0, () -> yard.look(2, 4));
        Due.is("lane 1", 1, () -> yard.look(4, 4));
        Due.is("lane 2", 2, () -> yard.look(3, 4));
        yard.weigh(1, 0, 650);
        Due.is("sent to lane 2", 2, () -> yard.look(4, 4));
    }

    private static void noLane() {
        GateSteps yard = Yards.busy();
        Due.is("DONE", -1, () -> yard.look(1, 4));
        Due.is("OPEN", -1, () -> yard.look(4, 4));
        Due.is("withdrawn", -1, () -> yard.look(5, 4));
        yard.noShow(1320);
        Due.is("not come", -1, () -> yard.look(4, 4));
        yard.weigh(2, 0, 1320);
        Due.is("DONE in lane 2", -1, () -> yard.look(3, 4));
    }

    private static void turns() {
        Due.is("TURN", 40, () -> Yards.busy().look(1, 5));
        GateSteps none = Yards.oneIn(1000);
        none.weigh(0, 1000, 0);
        Due.is("the least", 0, () -> none.look(1, 5));
        GateSteps all = Yards.oneIn(1000);
        all.weigh(0, 1000, 100000);
        Due.is("the most", 100000, () -> all.look(1, 5));
        GateSteps later = Yards.busy();
        later.noShow(100000);
        Due.is("it stays", 40, () -> later.look(1, 5));
    }

    private static void noTurn() {
        GateSteps yard = Yards.busy();
        Due.is("IN", -1, () -> yard.look(2, 5));
        Due.is("IN lane 2", -1, () -> yard.look(3, 5));
        Due.is("OPEN", -1, () -> yard.look(4, 5));
        Due.is("withdrawn", -1, () -> yard.look(5, 5));
        yard.noShow(1320);
        Due.is("not come", -1, () -> yard.look(4, 5));
    }

    private static void noSuchBooking() {
        GateSteps none = Due.yard(1, 1, 1);
        GateSteps yard = Yards.busy();
        for (int i = 0; i <= 5; i++) {
            int what = i;
            Due.index("booking 1 of none", () -> none.look(1, what));
            for (int booking : new int[] {Integer.MIN_VALUE, -1, 0, 6, 60, 61, Integer.MAX_VALUE}) {
                Due.index("booking " + booking, () -> yard.look(booking, what));
            }
        }
        GateSteps sixty = Yards.sixtyBookings();
        Due.is("booking 60 of 60", 3, () -> sixty.look(60, 2));
        Due.index("booking 61 of 60", () -> sixty.look(61, 2));
    }

    private static void noSuchWhat() {
        GateSteps yard = Yards.busy();
        for (int b = 1; b <= 5; b++) {
            int booking = b;
            for (int what : new int[] {Integer.MIN_VALUE, -1, 6, 7, 100, Integer.MAX_VALUE}) {
                Due.index("what " + what, () -> yard.look(booking, what));
            }
        }
    }

    private static void nothingChanged() {
        Due.refused("no booking", "IndexOutOfBoundsException", Yards::busy, y -> y.look(6, 0));
        Due.refused("booking 0", "IndexOutOfBoundsException", Yards::busy, y -> y.look(0, 0));
        Due.refused("no what", "IndexOutOfBoundsException", Yards::busy, y -> y.look(4, 6));
    }
}

/** Promise 8, through: each sentence that names an edge has a test of its own. */
public final class Edges08Test {
    public static void main(String[] args) {
        Due.sentence("THROUGH the gate at a time: 1", Edges08Test::through);
        Due.sentence("1 it is not OPEN", Edges08Test::notOpen);
        Due.sentence("2 the time is more than GRACE ahead of its slot's first second", Edges08Test::tooEarly);
        Due.sentence("2 .. or more than GRACE behind its last one", Edges08Test::tooLate);
        Due.sentence("3 RIGHTS of its truck", () -> barOf(4, -3));
        Due.sentence("4 DRIVER", () -> barOf(5, -4));
        Due.sentence("5 RELEASE .. of its box are bad", () -> barOf(0, -5));
        Due.sentence("6 SEAL", () -> barOf(1, -6));
        Due.sentence("7 DAMAGE", () -> barOf(2, -7));
        Due.sentence("SEAL or DAMAGE that is doubtful is not bad", Edges08Test::doubtful);
        Due.sentence("8 the box is DANGEROUS and its PAPERS are bad", Edges08Test::papers);
        Due.sentence("9 its truck is IN a lane with another booking", Edges08Test::truckIsIn);
        Due.sentence("looked at in this order", Edges08Test::order);
        Due.sentence("or the first BAR below 0 (it is that time then all the same)", Edges08Test::timeAllTheSame);
        Due.sentence("a BAR leaves all but the time as it was", Edges08Test::barChangesNothing);
        Due.sentence("2, if SEAL or DAMAGE is doubtful", Edges08Test::laneTwo);
        Due.sentence("else the one of 0 and 1 with fewer in it", Edges08Test::laneWithFewer);
        Due.sentence("(0 of equal ones)", Edges08Test::equalLanes);
        Due.sentence("It goes to the end of a LANE", Edges08Test::endOfLane);
        Due.sentence("IndexOutOfBoundsException if there is no such booking", Edges08Test::noSuchBooking);
        Due.sentence("IllegalArgumentException if the time can't be: 0 .. 100000", Edges08Test::timeOutside);
        Due.sentence("IllegalArgumentException if the time can't be: from NOW on", Edges08Test::timeAheadOfNow);
        Due.sentence("Of several exceptions the one told first is thrown.", Edges08Test::orderOfExceptions);
        Due.sentence("an exception is thrown ahead of a BAR", Edges08Test::aheadOfBar);
        Due.sentence("What throws changes nothing.", Edges08Test::nothingChanged);
        Due.end();
    }

    private static void through() {
        GateSteps yard = Yards.oneOpen(0);
        Due.is("through", 1, () -> yard.through(1, 7));
        Due.is("IN", 1, () -> yard.look(1, 3));
        Due.is("NOW", 7, () -> yard.count(0));
        Due.is("in its lane", 1, () -> yard.queue(0, 0));
    }

    private static void notOpen() {
        Due.is("DONE", -1, () -> Yards.busy().through(1, 650));
        Due.is("IN lane 0", -1, () -> Yards.busy().through(2, 650));
        Due.is("IN lane 2", -1, () -> Yards.busy().through(3, 650));
        Due.is("OPEN", 1, () -> Yards.busy().through(4, 650));
        Due.is("ENDED, withdrawn", -1, () -> Yards.busy().through(5, 650));
        GateSteps late = Yards.oneOpen(0);
        late.noShow(720);
        Due.is("ENDED, not come", -1, () -> late.through(1, 720));
    }

    private static void tooEarly() {
        for (int slot : new int[] {1, 2, 12, 23}) {
            int first = 600 * slot;
            Due.is("slot " + slot + ", 121 ahead", -2, () -> Yards.oneOpen(slot).through(1, first - 121));
            Due.is("slot " + slot + ", 120 ahead", 1, () -> Yards.oneOpen(slot).through(1, first - 120));
            Due.is("slot " + slot + ", its first second", 1, () -> Yards.oneOpen(slot).through(1, first));
            Due.is("slot " + slot + ", the first second of all", -2, () -> Yards.oneOpen(slot).through(1, 0));
        }
        Due.is("slot 0, the first second of all", 1, () -> Yards.oneOpen(0).through(1, 0));
    }

    private static void tooLate() {
        for (int slot : new int[] {0, 1, 12, 23}) {
            int last = 600 * slot + 599;
            Due.is("slot " + slot + ", its last second", 1, () -> Yards.oneOpen(slot).through(1, last));
            Due.is("slot " + slot + ", 120 behind", 1, () -> Yards.oneOpen(slot).through(1, last + 120));
            Due.is("slot " + slot + ", 121 behind", -2, () -> Yards.oneOpen(slot).through(1, last + 121));
            Due.is("slot " + slot + ", the last second of all", -2, () -> Yards.oneOpen(slot).through(1, 100000));
        }
    }

    private static void barOf(int kind, int bar) {
        GateSteps yard = Due.yard(2, 2, 4);
        yard.book(0, 2, 3);
        yard.check(kind, 1, 0);
        Due.is("bad of another one", 1, () -> yard.through(1, 0));
        yard.book(0, 3, 2);
        yard.check(kind, kind < 4 ? 2 : 3, 0);
        Due.is("bad", bar, () -> yard.through(2, 0));
        Due.is("bad still", bar, () -> yard.through(2, 719));
        yard.check(kind, kind < 4 ? 2 : 3, 1);
        Due.is("good", 1, () -> yard.through(2, 719));
    }

    private static void doubtful() {
        for (int k = 1; k <= 2; k++) {
            int kind = k;
            GateSteps yard = Yards.oneOpen(0);
            yard.check(kind, 0, 2);
            Due.is("doubtful of kind " + kind, 1, () -> yard.through(1, 0));
        }
    }

    private static void papers() {
        for (int i = 0; i < 4; i++) {
            boolean dangerous = i % 2 == 1;
            int papers = i / 2;
            GateSteps yard = new GateSteps(1, 1);
            Due.addBox(yard, 0, 1, dangerous);
            yard.check(0, 0, 1);
            yard.check(3, 0, papers);
            yard.book(0, 0, 0);
            Due.is("dangerous " + dangerous + ", papers " + papers, dangerous && papers == 0 ? -8 : 1,
                () -> yard.through(1, 0));
        }
    }

    private static void truckIsIn() {
        GateSteps yard = Due.yard(1, 8, 5);
        yard.check(2, 2, 2);
        yard.book(0, 15, 0);
        yard.book(0, 15, 1);
        yard.book(0, 15, 2);
        Due.is("OPEN ones are no bar", 1, () -> yard.through(2, 0));
        Due.is("IN lane 0", -9, () -> yard.through(1, 0));
        yard.weigh(0, 0, 0);
        Due.is("IN lane 2", -9, () -> yard.through(1, 0));
        yard.weigh(2, 0, 0);
        Due.is("DONE is not IN", 1, () -> yard.through(1, 0));
        yard.check(0, 0, 0);
        Due.is("ENDED is not IN", 1, () -> yard.through(3, 0));
        yard.book(0, 14, 3);
        Due.is("another truck", 1, () -> yard.through(4, 0));
        yard.book(0, 14, 4);
        Due.is("IN lane 0 with 4", -9, () -> yard.through(5, 0));
    }

    /** All kinds of a dangerous box and its truck are bad and its truck is IN: then they are made good one by one. */
    private static void order() {
        GateSteps yard = new GateSteps(2, 8);
        Due.addBox(yard, 0, 1000, true);
        Due.addBox(yard, 1, 1000, false);
        yard.check(0, 1, 1);
        yard.book(0, 0, 0);
        yard.book(1, 0, 1);
        yard.through(2, 600);
        for (int kind = 0; kind <= 5; kind++) {
            yard.check(kind, 0, 0);
        }
        Due.is("2 ahead of 3 to 9", -2, () -> yard.through(1, 720));
        yard.change(1, 1);
        int[] kinds = {4, 5, 0, 1, 2, 3};
        for (int i = 0; i < 6; i++) {
            int bar = -3 - i;
            Due.is(-bar + " ahead of the next to 9", bar, () -> yard.through(1, 720));
            yard.check(kinds[i], 0, 1);
        }
        Due.is("9 at last", -9, () -> yard.through(1, 720));
        GateSteps ended = Yards.oneOpen(0);
        ended.noShow(720);
        for (int kind = 0; kind <= 5; kind++) {
            ended.check(kind, 0, 0);
        }
        Due.is("1 ahead of 2 to 7", -1, () -> ended.through(1, 720));
    }

    private static void timeAllTheSame() {
        for (int kind : new int[] {4, 5, 0, 1, 2}) {
            int time = 10 * (kind + 1);
            GateSteps yard = Yards.oneOpen(0);
            yard.check(kind, 0, 0);
            yard.through(1, time);
            Due.is("NOW by a bar of kind " + kind, time, () -> yard.count(0));
            Due.argument("no time ahead of it", () -> yard.through(1, time - 1));
        }
        GateSteps late = Yards.oneOpen(0);
        late.through(1, 720);
        Due.is("NOW by bar 2", 720, () -> late.count(0));
        GateSteps done = Yards.busy();
        done.through(1, 800);
        Due.is("NOW by bar 1", 800, () -> done.count(0));
        GateSteps truck = Due.yard(1, 2, 2);
        truck.book(0, 0, 0);
        truck.book(0, 0, 1);
        truck.through(1, 5);
        truck.through(2, 6);
        Due.is("NOW by bar 9", 6, () -> truck.count(0));
        GateSteps papers = new GateSteps(1, 1);
        Due.addBox(papers, 0, 1, true);
        papers.check(0, 0, 1);
        papers.check(3, 0, 0);
        papers.book(0, 0, 0);
        papers.through(1, 99);
        Due.is("NOW by bar 8", 99, () -> papers.count(0));
    }

    private static void barChangesNothing() {
        GateSteps barred = Yards.busy();
        barred.through(1, 660);
        GateSteps left = Yards.busy();
        left.noShow(660);
        Due.same("the yard behind a bar", Picture.of(barred), Picture.of(left));
        GateSteps yard = Yards.oneOpen(1);
        yard.through(1, 479);
        Due.is("stays OPEN", 0, () -> yard.look(1, 3));
        Due.is("in no lane", -1, () -> yard.queue(0, 0));
        Due.is("and comes later", 1, () -> yard.through(1, 480));
        yard.weigh(0, 1000, 481);
        Due.is("its TURN is since then", 1, () -> yard.look(1, 5));
    }

    private static int laneOf(int seal, int damage) {
        GateSteps yard = Yards.oneOpen(0);
        yard.check(1, 0, seal);
        yard.check(2, 0, damage);
        yard.through(1, 0);
        return yard.look(1, 4);
    }

    private static void laneTwo() {
        Due.is("both good", 0, () -> laneOf(1, 1));
        Due.is("SEAL is doubtful", 2, () -> laneOf(2, 1));
        Due.is("DAMAGE is doubtful", 2, () -> laneOf(1, 2));
        Due.is("both are", 2, () -> laneOf(2, 2));
    }

    private static GateSteps eight(int in) {
        GateSteps yard = Due.yard(1, 8, 8);
        for (int i = 0; i < 8; i++) {
            yard.book(0, i, i);
            if (i < in) {
                yard.through(i + 1, 0);
            }
        }
        return yard;
    }

    private static void laneWithFewer() {
        GateSteps one = eight(1);
        one.through(2, 0);
        Due.is("one and none", 1, () -> one.look(2, 4));
        GateSteps two = eight(3);
        two.through(4, 0);
        Due.is("two and one", 1, () -> two.look(4, 4));
        GateSteps left = eight(4);
        left.weigh(0, 1000, 0);
        left.through(5, 0);
        Due.is("one and two", 0, () -> left.look(5, 4));
        GateSteps far = eight(6);
        far.weigh(0, 0, 0);
        far.weigh(0, 0, 0);
        far.through(7, 0);
        Due.is("one and three, with two in lane 2", 0, () -> far.look(7, 4));
        far.weigh(1, 0, 0);
        far.weigh(1, 0, 0);
        far.through(8, 0);
        Due.is("two and one, with four in lane 2", 1, () -> far.look(8, 4));
    }

    private static void equalLanes() {
        for (int in : new int[] {0, 2, 4, 6}) {
            GateSteps yard = eight(in);
            yard.through(in + 1, 0);
            Due.is("lane with " + in / 2 + " in each", 0, () -> yard.look(in + 1, 4));
        }
        GateSteps emptied = eight(2);
        emptied.weigh(0, 1000, 0);
        emptied.weigh(1, 1000, 0);
        emptied.through(3, 0);
        Due.is("lane when both are empty again", 0, () -> emptied.look(3, 4));
    }

    private static void endOfLane() {
        GateSteps yard = eight(0);
        for (int i = 8; i >= 1; i--) {
            yard.through(i, 0);
        }
        for (int i = 0; i < 8; i++) {
            int booking = 8 - i;
            int place = i / 2;
            int lane = i % 2;
            Due.is("place " + place + " of lane " + lane, booking, () -> yard.queue(lane, place));
        }
        GateSteps side = Yards.busy();
        side.check(2, 3, 2);
        side.through(4, 650);
        Due.is("first of lane 2", 3, () -> side.queue(2, 0));
        Due.is("the end of lane 2", 4, () -> side.queue(2, 1));
    }

    private static void noSuchBooking() {
        GateSteps none = Due.yard(1, 1, 1);
        Due.index("booking 1 of none", () -> none.through(1, 0));
        Due.index("booking 0 of none", () -> none.through(0, 0));
        GateSteps yard = Yards.busy();
        for (int booking : new int[] {Integer.MIN_VALUE, -1, 0, 6, 60, 61, Integer.MAX_VALUE}) {
            Due.index("booking " + booking, () -> yard.through(booking, 650));
        }
        Due.index("booking 61 of 60", () -> Yards.sixtyBookings().through(61, 720));
        Due.is("booking 60 of 60", -2, () -> Yards.sixtyBookings().through(60, 720));
    }

    private static void timeOutside() {
        GateSteps yard = Yards.oneOpen(0);
        for (int time : new int[] {Integer.MIN_VALUE, -100000, -1, 100001, Integer.MAX_VALUE}) {
            Due.argument("time " + time, () -> yard.through(1, time));
        }
        Due.is("time 0", 1, () -> yard.through(1, 0));
        Due.is("time 100000", -1, () -> yard.through(1, 100000));
        Due.argument("and no time behind it", () -> yard.through(1, 100001));
    }

    private static void timeAheadOfNow() {
        GateSteps yard = Yards.busy();
        for (int time : new int[] {0, 500, 649}) {
            Due.argument("time " + time, () -> yard.through(4, time));
        }
        Due.is("NOW itself", 1, () -> yard.through(4, 650));
    }

    private static void orderOfExceptions() {
        GateSteps yard = Yards.busy();
        for (int booking : new int[] {Integer.MIN_VALUE, 0, 6, Integer.MAX_VALUE}) {
            for (int time : new int[] {Integer.MIN_VALUE, -1, 649, 100001, Integer.MAX_VALUE}) {
                Due.index("booking " + booking + " at " + time, () -> yard.through(booking, time));
            }
        }
    }

    private static void aheadOfBar() {
        GateSteps yard = Yards.busy();
        for (int i = 1; i <= 5; i++) {
            int booking = i;
            Due.argument("booking " + i + " ahead of NOW", () -> yard.through(booking, 649));
            Due.argument("booking " + i + " behind all time", () -> yard.through(booking, 100001));
        }
    }

    private static void nothingChanged() {
        Due.refused("no booking", "IndexOutOfBoundsException", Yards::busy, y -> y.through(6, 660));
        Due.refused("booking 0", "IndexOutOfBoundsException", Yards::busy, y -> y.through(0, 660));
        Due.refused("ahead of NOW", "IllegalArgumentException", Yards::busy, y -> y.through(4, 649));
        Due.refused("behind all time", "IllegalArgumentException", Yards::busy, y -> y.through(4, 100001));
    }
}

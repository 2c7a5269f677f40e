/** Promise 9, weigh: each sentence that names an edge has a test of its own. */
public final class Edges09Test {
    public static void main(String[] args) {
        Due.sentence("its booking if it is DONE", Edges09Test::done);
        Due.sentence("below 0 if it goes to lane 2", Edges09Test::toLaneTwo);
        Due.sentence("the difference times 1000 is not more than weight * tolerance: too heavy", Edges09Test::tooHeavy);
        Due.sentence("the difference times 1000 is not more than weight * tolerance: too light", Edges09Test::tooLight);
        Due.sentence("the difference times 1000: no rounding", Edges09Test::noRounding);
        Due.sentence("the difference times 1000: the largest numbers", Edges09Test::largest);
        Due.sentence("else it goes to the end of lane 2", Edges09Test::endOfLaneTwo);
        Due.sentence("in lane 2 it is DONE whatever it weighs", Edges09Test::whateverItWeighs);
        Due.sentence("the FIRST of a lane alone", Edges09Test::firstAlone);
        Due.sentence("0 if the lane is empty", Edges09Test::emptyLane);
        Due.sentence("(it is that time then)", Edges09Test::timeOfEmptyLane);
        Due.sentence("Its TURN is the time since it came through.", Edges09Test::turn);
        Due.sentence("IndexOutOfBoundsException if there is no such lane", Edges09Test::noSuchLane);
        Due.sentence("IllegalArgumentException if the time .. can't be: 0 .. 100000", Edges09Test::timeOutside);
        Due.sentence("IllegalArgumentException if the time .. can't be: from NOW on", Edges09Test::timeAheadOfNow);
        Due.sentence("or weight (0 .. 200000) can't be", Edges09Test::weightOutside);
        Due.sentence("Of several exceptions the one told first is thrown.", Edges09Test::order);
        Due.sentence("an exception is thrown ahead of 0", Edges09Test::aheadOfEmpty);
        Due.sentence("What throws changes nothing.", Edges09Test::nothingChanged);
        Due.end();
    }

    private static void done() {
        GateSteps yard = Yards.busy();
        Due.is("lane 0", 2, () -> yard.weigh(0, 1000, 651));
        Due.is("DONE", 2, () -> yard.look(2, 3));
        Due.is("in no lane", -1, () -> yard.look(2, 4));
        Due.is("none in lane 0", 0, () -> yard.count(4));
        Due.is("NOW", 651, () -> yard.count(0));
    }

    private static void toLaneTwo() {
        GateSteps yard = Yards.busy();
        Due.is("lane 0", -2, () -> yard.weigh(0, 1031, 651));
        Due.is("IN", 1, () -> yard.look(2, 3));
        Due.is("lane 2", 2, () -> yard.look(2, 4));
        Due.is("no TURN", -1, () -> yard.look(2, 5));
        Due.is("none DONE but the one before", 1, () -> yard.count(9));
        Due.is("NOW", 651, () -> yard.count(0));
        GateSteps other = Yards.busy();
        other.through(4, 650);
        Due.is("lane 1", -4, () -> other.weigh(1, 969, 651));
        Due.is("none in lane 1", 0, () -> other.count(5));
    }

    private static void weighed(int weight, int tolerance, int kg, boolean within) {
        GateSteps yard = Yards.oneIn(weight);
        yard.tolerance(tolerance);
        Due.is(weight + " within " + tolerance + " weighs " + kg, within ? 1 : -1, () -> yard.weigh(0, kg, 0));
    }

    private static void tooHeavy() {
        weighed(1000, 25, 1025, true);
        weighed(1000, 25, 1026, false);
        weighed(40, 25, 41, true);
        weighed(40, 25, 42, false);
        weighed(1000, 0, 1000, true);
        weighed(1000, 0, 1001, false);
        weighed(1000, 1, 1001, true);
        weighed(1000, 1, 1002, false);
        weighed(1000, 1000, 2000, true);
        weighed(1000, 1000, 2001, false);
    }

    private static void tooLight() {
        weighed(1000, 25, 975, true);
        weighed(1000, 25, 974, false);
        weighed(40, 25, 39, true);
        weighed(40, 25, 38, false);
        weighed(1000, 0, 999, false);
        weighed(1000, 1, 999, true);
        weighed(1000, 1, 998, false);
        weighed(1000, 1000, 0, true);
        weighed(1000, 999, 1, true);
        weighed(1000, 999, 0, false);
    }

    private static void noRounding() {
        weighed(39, 25, 40, false);
        weighed(39, 25, 38, false);
        weighed(79, 25, 80, true);
        weighed(79, 25, 81, false);
        weighed(1, 999, 2, false);
        weighed(1, 999, 0, false);
        weighed(1, 1000, 2, true);
        weighed(1999, 1, 2000, true);
        weighed(1999, 1, 2001, false);
        weighed(999, 1, 1000, false);
        weighed(99999, 25, 102498, true);
        weighed(99999, 25, 102499, false);
    }

    private static void largest() {
        weighed(100000, 1000, 200000, true);
        weighed(100000, 999, 200000, false);
        weighed(100000, 999, 199900, true);
        weighed(100000, 999, 199901, false);
        weighed(100000, 1000, 0, true);
        weighed(100000, 999, 0, false);
        weighed(1, 1000, 200000, false);
        weighed(1, 0, 200000, false);
        weighed(99999, 1000, 200000, false);
    }

    private static void endOfLaneTwo() {
        GateSteps yard = Due.yard(1, 8, 6);
        yard.check(1, 0, 2);
        for (int i = 0; i < 6; i++) {
            yard.book(0, i, i);
            yard.through(i + 1, 0);
        }
        // lane 2 has 1, lane 0 has 2, 4, 6, lane 1 has 3, 5
        int[] lanes = {1, 0, 1, 0, 0};
        int[] sent = {3, 2, 5, 4, 6};
        for (int i = 0; i < 5; i++) {
            int lane = lanes[i];
            int booking = sent[i];
            int place = i + 1;
            Due.is("sent", -booking, () -> yard.weigh(lane, 0, 0));
            Due.is("place " + place, booking, () -> yard.queue(2, place));
        }
        Due.is("the one that was there is first", 1, () -> yard.queue(2, 0));
        Due.is("six in lane 2", 6, () -> yard.count(6));
    }

    private static void whateverItWeighs() {
        for (int kg : new int[] {0, 1, 969, 1000, 1031, 200000}) {
            GateSteps yard = Yards.busy();
            Due.is("weighs " + kg, 3, () -> yard.weigh(2, kg, 650));
            Due.is("DONE", 2, () -> yard.look(3, 3));
            Due.is("lane 2", 0, () -> yard.count(6));
        }
        GateSteps sent = Yards.oneIn(1000);
        sent.weigh(0, 0, 0);
        Due.is("one that was sent there", 1, () -> sent.weigh(2, 0, 0));
    }

    private static void firstAlone() {
        GateSteps yard = Due.yard(1, 8, 6);
        for (int i = 0; i < 6; i++) {
            yard.book(0, i, i);
            yard.through(i + 1, 0);
        }
        Due.is("first of lane 0", 1, () -> yard.weigh(0, 1000, 0));
        Due.is("then the second", 3, () -> yard.weigh(0, 1000, 0));
        Due.is("the third stays IN", 1, () -> yard.look(5, 3));
        Due.is("and is first", 5, () -> yard.queue(0, 0));
        Due.is("first of lane 1 is as it was", 2, () -> yard.queue(1, 0));
        Due.is("three in lane 1", 3, () -> yard.count(5));
        Due.is("first of lane 1", -2, () -> yard.weigh(1, 0, 0));
        Due.is("the second stays", 4, () -> yard.queue(1, 0));
        Due.is("the third stays", 6, () -> yard.queue(1, 1));
    }

    private static void emptyLane() {
        GateSteps yard = new GateSteps(1, 1);
        for (int i = 0; i < 3; i++) {
            int lane = i;
            Due.is("lane " + i + " at first", 0, () -> yard.weigh(lane, 1000, 0));
        }
        GateSteps one = Yards.oneIn(1000);
        Due.is("lane 1 beside another", 0, () -> one.weigh(1, 1000, 0));
        one.weigh(0, 1000, 0);
        Due.is("lane 0 when all are DONE", 0, () -> one.weigh(0, 1000, 0));
        GateSteps gone = Yards.oneIn(1000);
        gone.check(0, 0, 0);
        Due.is("lane 0 when the one is withdrawn", 0, () -> gone.weigh(0, 1000, 0));
        GateSteps open = Yards.oneOpen(0);
        Due.is("lane 0 while one is OPEN", 0, () -> open.weigh(0, 1000, 0));
    }

    private static void timeOfEmptyLane() {
        for (int i = 0; i < 3; i++) {
            int lane = i;
            GateSteps yard = new GateSteps(1, 1);
            yard.weigh(lane, 0, 77);
            Due.is("NOW by lane " + i, 77, () -> yard.count(0));
            Due.argument("no time ahead of it", () -> yard.weigh(lane, 0, 76));
        }
        GateSteps empty = Yards.busy();
        empty.weigh(1, 1000, 660);
        GateSteps left = Yards.busy();
        left.noShow(660);
        Due.same("nothing else", Picture.of(empty), Picture.of(left));
    }

    private static void turn() {
        GateSteps now = Yards.oneIn(1000);
        now.weigh(0, 1000, 0);
        Due.is("no time at all", 0, () -> now.look(1, 5));
        GateSteps last = Yards.oneIn(1000);
        last.weigh(0, 1000, 100000);
        Due.is("all the time", 100000, () -> last.look(1, 5));
        GateSteps sent = Yards.oneOpen(1);
        sent.through(1, 480);
        sent.weigh(0, 0, 500);
        sent.weigh(2, 0, 555);
        Due.is("with the time ahead of lane 2", 75, () -> sent.look(1, 5));
        GateSteps again = Yards.oneIn(1000);
        again.check(0, 0, 0);
        again.check(0, 0, 1);
        again.book(0, 0, 0);
        again.through(2, 300);
        again.weigh(0, 1000, 310);
        Due.is("without the time of an ENDED one", 10, () -> again.look(2, 5));
    }

    private static void noSuchLane() {
        GateSteps yard = Yards.busy();
        for (int lane : new int[] {Integer.MIN_VALUE, -1, 3, 4, Integer.MAX_VALUE}) {
            Due.index("lane " + lane, () -> yard.weigh(lane, 1000, 650));
        }
        Due.is("lane 2", 3, () -> yard.weigh(2, 1000, 650));
        Due.is("lane 0", 2, () -> yard.weigh(0, 1000, 650));
    }

    private static void timeOutside() {
        GateSteps yard = Yards.oneIn(1000);
        for (int time : new int[] {Integer.MIN_VALUE, -1, 100001, Integer.MAX_VALUE}) {
            Due.argument("time " + time, () -> yard.weigh(0, 1000, time));
        }
        Due.is("time 100000", 1, () -> yard.weigh(0, 1000, 100000));
        Due.is("time 0", 1, () -> Yards.oneIn(1000).weigh(0, 1000, 0));
    }

    private static void timeAheadOfNow() {
        GateSteps yard = Yards.busy();
        for (int time : new int[] {0, 540, 649}) {
            Due.argument("time " + time, () -> yard.weigh(0, 1000, time));
        }
        Due.is("NOW itself", 2, () -> yard.weigh(0, 1000, 650));
    }

    private static void weightOutside() {
        for (int i = 0; i < 3; i++) {
            int lane = i;
            GateSteps yard = Yards.busy();
            for (int kg : new int[] {Integer.MIN_VALUE, -1000, -1, 200001, Integer.MAX_VALUE}) {
                Due.argument(kg + " kg in lane " + lane, () -> yard.weigh(lane, kg, 650));
            }
        }
        Due.is("0 kg", -2, () -> Yards.busy().weigh(0, 0, 650));
        Due.is("200000 kg", -2, () -> Yards.busy().weigh(0, 200000, 650));
    }

    private static void order() {
        GateSteps yard = Yards.busy();
        for (int lane : new int[] {Integer.MIN_VALUE, -1, 3, Integer.MAX_VALUE}) {
            Due.index("lane " + lane + ", no time", () -> yard.weigh(lane, 1000, 649));
            Due.index("lane " + lane + ", no weight", () -> yard.weigh(lane, -1, 650));
            Due.index("lane " + lane + ", neither", () -> yard.weigh(lane, 200001, 100001));
        }
    }

    private static void aheadOfEmpty() {
        GateSteps yard = Yards.busy();
        Due.argument("no time, empty lane", () -> yard.weigh(1, 1000, 649));
        Due.argument("no time, empty lane", () -> yard.weigh(1, 1000, 100001));
        Due.argument("no weight, empty lane", () -> yard.weigh(1, -1, 650));
        Due.argument("no weight, empty lane", () -> yard.weigh(1, 200001, 650));
    }

    private static void nothingChanged() {
        Due.refused("no lane", "IndexOutOfBoundsException", Yards::busy, y -> y.weigh(3, 1000, 660));
        Due.refused("lane -1", "IndexOutOfBoundsException", Yards::busy, y -> y.weigh(-1, 1000, 660));
        for (int i = 0; i < 3; i++) {
            int lane = i;
            Due.refused("no time", "IllegalArgumentException", Yards::busy, y -> y.weigh(lane, 1000, 649));
            Due.refused("no time", "IllegalArgumentException", Yards::busy, y -> y.weigh(lane, 1000, 100001));
            Due.refused("too light", "IllegalArgumentException", Yards::busy, y -> y.weigh(lane, -1, 660));
            Due.refused("too heavy", "IllegalArgumentException", Yards::busy, y -> y.weigh(lane, 200001, 660));
        }
    }
}

/** Promise 13, queue: each sentence that names an edge has a test of its own. */
public final class Edges13Test {
    public static void main(String[] args) {
        Due.sentence("Booking i (0 the first) of a lane", Edges13Test::places);
        Due.sentence("NONE without: an empty lane", Edges13Test::emptyLane);
        Due.sentence("NONE without: no such place", Edges13Test::noSuchPlace);
        Due.sentence("NONE without: no such lane", Edges13Test::noSuchLane);
        Due.sentence("NONE without: those who left", Edges13Test::thoseWhoLeft);
        Due.sentence("a lane can hold one booking of every truck", Edges13Test::fullLane);
        Due.end();
    }

    private static GateSteps sixteen(boolean doubtful) {
        GateSteps yard = Due.yard(2, 8, 16);
        for (int i = 0; i < 16; i++) {
            if (doubtful) {
                yard.check(1, i, 2);
            }
            yard.book(i / 8, i, i);
            yard.through(i + 1, 500);
        }
        return yard;
    }

    private static void places() {
        GateSteps yard = sixteen(false);
        for (int i = 0; i < 16; i++) {
            int lane = i % 2;
            int place = i / 2;
            Due.is("place " + place + " of lane " + lane, i + 1, () -> yard.queue(lane, place));
        }
    }

    private static void emptyLane() {
        GateSteps yard = new GateSteps(1, 1);
        for (int i = 0; i < 3; i++) {
            int lane = i;
            Due.is("lane " + i, -1, () -> yard.queue(lane, 0));
        }
        GateSteps open = Yards.oneOpen(0);
        Due.is("lane 0 while one is OPEN", -1, () -> open.queue(0, 0));
        GateSteps one = Yards.oneIn(1000);
        Due.is("lane 1 beside another", -1, () -> one.queue(1, 0));
        Due.is("lane 2 beside another", -1, () -> one.queue(2, 0));
    }

    private static void noSuchPlace() {
        GateSteps yard = sixteen(false);
        for (int i = 0; i < 2; i++) {
            int lane = i;
            for (int place : new int[] {Integer.MIN_VALUE, -1, 8, 9, 15, 16, 60, Integer.MAX_VALUE}) {
                Due.is("place " + place + " of lane " + lane, -1, () -> yard.queue(lane, place));
            }
        }
    }

    private static void noSuchLane() {
        GateSteps yard = Yards.busy();
        for (int lane : new int[] {Integer.MIN_VALUE, -1, 3, 4, Integer.MAX_VALUE}) {
            for (int place : new int[] {Integer.MIN_VALUE, -1, 0, 1, Integer.MAX_VALUE}) {
                Due.is("place " + place + " of lane " + lane, -1, () -> yard.queue(lane, place));
            }
        }
    }

    private static void thoseWhoLeft() {
        GateSteps yard = Yards.oneIn(1000);
        yard.weigh(0, 0, 0);
        Due.is("gone to lane 2", -1, () -> yard.queue(0, 0));
        Due.is("there it is", 1, () -> yard.queue(2, 0));
        yard.weigh(2, 0, 0);
        Due.is("DONE", -1, () -> yard.queue(2, 0));
        GateSteps withdrawn = Yards.oneIn(1000);
        withdrawn.check(0, 0, 0);
        Due.is("withdrawn", -1, () -> withdrawn.queue(0, 0));
        GateSteps first = sixteen(false);
        first.weigh(0, 1000, 500);
        Due.is("the next is first", 3, () -> first.queue(0, 0));
        Due.is("the last moved up", 15, () -> first.queue(0, 6));
        Due.is("none where it was", -1, () -> first.queue(0, 7));
    }

    private static void fullLane() {
        GateSteps yard = sixteen(true);
        for (int i = 0; i < 16; i++) {
            int place = i;
            Due.is("place " + i + " of lane 2", i + 1, () -> yard.queue(2, place));
        }
        Due.is("no seventeenth", -1, () -> yard.queue(2, 16));
        Due.is("sixteen", 16, () -> yard.count(6));
        GateSteps sent = sixteen(false);
        for (int i = 0; i < 16; i++) {
            sent.weigh(i % 2, 0, 500);
        }
        Due.is("the last of sixteen that were sent", 16, () -> sent.queue(2, 15));
    }
}

/** Promises 9, 10 and 11: weigh, tolerance, noShow. */
public final class WeighTest {
    public static void main(String[] args) {
        tolerances();
        toleranceOfHeavyBoxes();
        wrongTolerances();
        laneTwo();
        emptyLanes();
        firstAlone();
        wrongCalls();
        turns();
        noShows();
        noShowsOfOthers();
        wrongNoShows();
        Due.end();
    }

    private static GateSteps one(int weight) {
        GateSteps yard = new GateSteps(1, 1);
        Due.addBox(yard, 0, weight, false);
        yard.check(0, 0, 1);
        yard.book(0, 0, 0);
        yard.through(1, 0);
        return yard;
    }

    private static void weighed(int weight, int tolerance, int kg, int due) {
        GateSteps yard = one(weight);
        if (tolerance != 25) {
            Due.is("tolerance " + tolerance, true, () -> yard.tolerance(tolerance));
        }
        Due.is(weight + " weighs " + kg + " within " + tolerance, due, () -> yard.weigh(0, kg, 9));
        Due.is("done or in", due == 1 ? 2 : 1, () -> yard.look(1, 3));
        Due.is("lane", due == 1 ? -1 : 2, () -> yard.look(1, 4));
        Due.is("in lane 0", 0, () -> yard.count(4));
        Due.is("in lane 2", due == 1 ? 0 : 1, () -> yard.count(6));
    }

    private static void tolerances() {
        weighed(1000, 25, 1000, 1);
        weighed(1000, 25, 1025, 1);
        weighed(1000, 25, 1026, -1);
        weighed(1000, 25, 975, 1);
        weighed(1000, 25, 974, -1);
        weighed(1039, 25, 1064, 1);
        weighed(1039, 25, 1065, -1);
        weighed(1040, 25, 1066, 1);
        weighed(1, 25, 1, 1);
        weighed(1, 25, 2, -1);
        weighed(1, 25, 0, -1);
        weighed(1000, 0, 1000, 1);
        weighed(1000, 0, 1001, -1);
        weighed(1000, 0, 999, -1);
        weighed(1000, 1000, 0, 1);
        weighed(1000, 1000, 2000, 1);
        weighed(1000, 1000, 2001, -1);
    }

    private static void toleranceOfHeavyBoxes() {
        weighed(100000, 25, 102500, 1);
        weighed(100000, 25, 102501, -1);
        weighed(100000, 1000, 200000, 1);
        weighed(100000, 999, 200000, -1);
        weighed(1, 1000, 200000, -1);
    }

    private static void wrongTolerances() {
        GateSteps yard = one(1000);
        for (int thousandths : new int[] {Integer.MIN_VALUE, -1, 1001, Integer.MAX_VALUE}) {
            Due.is("tolerance " + thousandths, false, () -> yard.tolerance(thousandths));
        }
        Due.is("it stays", -1, () -> yard.weigh(0, 1026, 0));
        GateSteps other = one(1000);
        other.tolerance(30);
        other.tolerance(-1);
        Due.is("what was told stays", 1, () -> other.weigh(0, 1030, 0));
    }

    private static void laneTwo() {
        GateSteps yard = one(1000);
        yard.weigh(0, 0, 10);
        Due.is("whatever it weighs", 1, () -> yard.weigh(2, 200000, 30));
        Due.is("done", 2, () -> yard.look(1, 3));
        Due.is("turn since it came through", 30, () -> yard.look(1, 5));
        Due.is("lane 2", 0, () -> yard.count(6));
    }

    private static void emptyLanes() {
        GateSteps yard = one(1000);
        Due.is("empty lane 1", 0, () -> yard.weigh(1, 0, 40));
        Due.is("it is that time", 40, () -> yard.count(0));
        Due.is("empty lane 2", 0, () -> yard.weigh(2, 200000, 41));
        Due.is("lane 0 is as it was", 1, () -> yard.queue(0, 0));
    }

    private static void firstAlone() {
        GateSteps yard = Due.yard(1, 8, 6);
        yard.check(1, 5, 2);
        for (int i = 0; i < 6; i++) {
            yard.book(0, i, i);
            yard.through(i + 1, 0);
        }
        // lane 0 has 1, 3, 5, lane 1 has 2, 4, lane 2 has 6
        Due.is("first of lane 1 goes", -2, () -> yard.weigh(1, 0, 1));
        Due.is("to the end", 2, () -> yard.queue(2, 1));
        Due.is("behind the one there", 6, () -> yard.queue(2, 0));
        Due.is("the next is first", 4, () -> yard.queue(1, 0));
        Due.is("first of lane 0 is done", 1, () -> yard.weigh(0, 1000, 2));
        Due.is("the next is first", 3, () -> yard.queue(0, 0));
        Due.is("and the one behind it", 5, () -> yard.queue(0, 1));
        Due.is("first of lane 2", 6, () -> yard.weigh(2, 7, 3));
        Due.is("then the one that went there", 2, () -> yard.weigh(2, 7, 4));
        Due.is("then none", 0, () -> yard.weigh(2, 7, 5));
    }

    private static void wrongCalls() {
        GateSteps yard = one(1000);
        yard.noShow(50);
        for (int lane : new int[] {Integer.MIN_VALUE, -1, 3, Integer.MAX_VALUE}) {
            Due.index("lane " + lane, () -> yard.weigh(lane, 1000, 60));
            Due.index("lane " + lane + " ahead of all else", () -> yard.weigh(lane, -1, -1));
        }
        for (int kg : new int[] {Integer.MIN_VALUE, -1, 200001, Integer.MAX_VALUE}) {
            Due.argument("weight " + kg, () -> yard.weigh(0, kg, 60));
            Due.argument("weight " + kg + " on an empty lane", () -> yard.weigh(1, kg, 60));
        }
        for (int time : new int[] {Integer.MIN_VALUE, -1, 0, 49, 100001, Integer.MAX_VALUE}) {
            Due.argument("time " + time, () -> yard.weigh(0, 1000, time));
            Due.argument("time " + time + " on an empty lane", () -> yard.weigh(1, 1000, time));
        }
        Due.is("time stays", 50, () -> yard.count(0));
        Due.is("lane stays", 1, () -> yard.queue(0, 0));
        Due.is("the latest time", 1, () -> yard.weigh(0, 1000, 100000));
    }

    private static void turns() {
        GateSteps yard = Due.yard(1, 8, 3);
        for (int i = 0; i < 3; i++) {
            yard.book(0, i, i);
        }
        yard.through(1, 10);
        yard.through(2, 20);
        yard.weigh(0, 1000, 110);
        Due.is("turn", 100, () -> yard.look(1, 5));
        yard.weigh(1, 1000, 60 + 90);
        Due.is("longer turn", 130, () -> yard.look(2, 5));
        Due.is("longest", 130, () -> yard.count(7));
        Due.is("together", 230, () -> yard.count(8));
        yard.through(3, 160);
        yard.weigh(0, 1000, 160);
        Due.is("turn of 0", 0, () -> yard.look(3, 5));
        Due.is("longest stays", 130, () -> yard.count(7));
        Due.is("together stays", 230, () -> yard.count(8));
        Due.is("done", 3, () -> yard.count(9));
    }

    private static void noShows() {
        GateSteps yard = Due.yard(3, 3, 5);
        yard.book(0, 0, 0);
        yard.book(0, 1, 1);
        yard.book(1, 2, 2);
        yard.book(2, 3, 3);
        Due.is("none yet", 0, () -> yard.noShow(719));
        Due.is("open", 0, () -> yard.look(1, 3));
        Due.is("two", 2, () -> yard.noShow(720));
        Due.is("it is that time", 720, () -> yard.count(0));
        Due.is("ended", 3, () -> yard.look(1, 3));
        Due.is("ended", 3, () -> yard.look(2, 3));
        Due.is("open", 0, () -> yard.look(3, 3));
        Due.is("slot 0", 0, () -> yard.count(100));
        Due.is("not again", 0, () -> yard.noShow(720));
        Due.is("not yet", 0, () -> yard.noShow(1319));
        Due.is("slot 1", 1, () -> yard.noShow(1320));
        Due.is("slot 2", 1, () -> yard.noShow(100000));
        Due.is("slot kept for looks", 2, () -> yard.look(4, 0));
    }

    private static void noShowsOfOthers() {
        GateSteps yard = Due.yard(3, 3, 5);
        for (int i = 0; i < 4; i++) {
            yard.book(0, i, i);
        }
        yard.through(1, 0);
        yard.through(2, 0);
        yard.weigh(0, 1000, 0);
        yard.book(1, 3, 3);
        yard.weigh(1, 0, 5000);
        Due.is("not ended before it is asked", 0, () -> yard.look(3, 3));
        Due.is("open ones alone", 2, () -> yard.noShow(5000));
        Due.is("done stays", 2, () -> yard.look(1, 3));
        Due.is("in stays", 1, () -> yard.look(2, 3));
        Due.is("slot 0 has the two", 2, () -> yard.count(100));
        Due.is("the box can be booked again", 5, () -> yard.book(2, 0, 2));
    }

    private static void wrongNoShows() {
        GateSteps yard = Due.yard(1, 1, 1);
        yard.book(0, 0, 0);
        yard.noShow(7);
        for (int time : new int[] {Integer.MIN_VALUE, -1, 0, 6, 100001, Integer.MAX_VALUE}) {
            Due.argument("time " + time, () -> yard.noShow(time));
        }
        Due.is("time stays", 7, () -> yard.count(0));
        Due.is("booking stays", 0, () -> yard.look(1, 3));
        Due.is("now itself", 0, () -> yard.noShow(7));
    }
}

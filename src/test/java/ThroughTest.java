/** Promise 8: through; promise 13: queue. */
public final class ThroughTest {
    public static void main(String[] args) {
        barOfState();
        barOfTime();
        barsInTheirOrder();
        papersOfDangerousBoxes();
        doubtfulIsNoBar();
        barOfTruck();
        lanes();
        wrongCalls();
        timeGoesOn();
        queues();
        Due.end();
    }

    private static void barOfState() {
        GateSteps yard = Due.yard(2, 2, 2);
        yard.book(0, 0, 0);
        Due.is("open", 1, () -> yard.through(1, 0));
        Due.is("in", -1, () -> yard.through(1, 0));
        Due.is("in, ahead of its time", -1, () -> yard.through(1, 2000));
        yard.weigh(0, 1000, 2000);
        Due.is("done", -1, () -> yard.through(1, 2000));
        yard.book(0, 0, 1);
        yard.noShow(2000);
        Due.is("ended", -1, () -> yard.through(2, 2000));
        Due.is("ended stays", 3, () -> yard.look(2, 3));
    }

    private static void barOfTime() {
        time(0, 0, 1);
        time(0, 719, 1);
        time(0, 720, -2);
        time(1, 479, -2);
        time(1, 480, 1);
        time(1, 1319, 1);
        time(1, 1320, -2);
        time(23, 13679, -2);
        time(23, 13680, 1);
        time(23, 14519, 1);
        time(23, 14520, -2);
        time(23, 100000, -2);
    }

    private static void time(int slot, int time, int due) {
        GateSteps yard = Due.yard(24, 1, 1);
        yard.book(slot, 0, 0);
        Due.is("slot " + slot + " at " + time, due, () -> yard.through(1, time));
        Due.is("it is that time", time, () -> yard.count(0));
        Due.is("in or open", due == 1 ? 1 : 0, () -> yard.look(1, 3));
    }

    private static void barsInTheirOrder() {
        GateSteps yard = new GateSteps(1, 2);
        Due.addBox(yard, 0, 1000, true);
        Due.addBox(yard, 1, 1000, false);
        yard.check(0, 1, 1);
        yard.book(0, 0, 0);
        yard.book(0, 0, 1);
        yard.through(2, 0);
        for (int kind = 0; kind <= 5; kind++) {
            yard.check(kind, 0, 0);
        }
        int[] kinds = {4, 5, 0, 1, 2, 3};
        for (int i = 0; i < kinds.length; i++) {
            int bar = -3 - i;
            Due.is("bar " + bar, bar, () -> yard.through(1, 0));
            Due.is("stays open", 0, () -> yard.look(1, 3));
            yard.check(kinds[i], 0, 1);
        }
        Due.is("bar 9", -9, () -> yard.through(1, 0));
        yard.weigh(0, 1000, 0);
        Due.is("no bar", 1, () -> yard.through(1, 0));
        GateSteps late = Due.yard(1, 1, 1);
        late.book(0, 0, 0);
        late.check(4, 0, 0);
        Due.is("time ahead of rights", -2, () -> late.through(1, 720));
        GateSteps fresh = new GateSteps(1, 1);
        Due.addBox(fresh, 0, 5, false);
        fresh.book(0, 0, 0);
        Due.is("not released at first", -5, () -> fresh.through(1, 0));
    }

    private static void papersOfDangerousBoxes() {
        GateSteps yard = new GateSteps(1, 2);
        Due.addBox(yard, 0, 5, true);
        Due.addBox(yard, 1, 5, false);
        for (int i = 0; i < 2; i++) {
            yard.check(0, i, 1);
            yard.check(3, i, 0);
            yard.book(0, i, i);
        }
        Due.is("dangerous", -8, () -> yard.through(1, 0));
        Due.is("not dangerous", 1, () -> yard.through(2, 0));
        yard.check(3, 0, 1);
        Due.is("dangerous with papers", 1, () -> yard.through(1, 0));
        GateSteps fresh = new GateSteps(1, 1);
        Due.addBox(fresh, 0, 5, true);
        fresh.check(0, 0, 1);
        fresh.book(0, 0, 0);
        Due.is("all but the release is good at first", 1, () -> fresh.through(1, 0));
    }

    private static void doubtfulIsNoBar() {
        for (int kind = 1; kind <= 2; kind++) {
            GateSteps yard = Due.yard(1, 3, 3);
            yard.check(kind, 0, 2);
            yard.book(0, 0, 0);
            Due.is("doubtful " + kind, 1, () -> yard.through(1, 0));
            Due.is("lane of doubtful " + kind, 2, () -> yard.look(1, 4));
            Due.is("first of lane 2", 1, () -> yard.queue(2, 0));
            yard.check(kind, 1, 2);
            yard.check(kind, 1, 1);
            yard.book(0, 1, 1);
            yard.through(2, 0);
            Due.is("doubtful no more " + kind, 0, () -> yard.look(2, 4));
        }
    }

    private static void barOfTruck() {
        GateSteps yard = Due.yard(1, 8, 4);
        yard.book(0, 7, 0);
        yard.book(0, 7, 1);
        yard.book(0, 8, 2);
        Due.is("first of a truck", 1, () -> yard.through(1, 0));
        Due.is("second of a truck", -9, () -> yard.through(2, 0));
        Due.is("another truck", 1, () -> yard.through(3, 0));
        yard.weigh(0, 0, 0);
        Due.is("in lane 2 too", -9, () -> yard.through(2, 0));
        yard.check(0, 0, 0);
        Due.is("when it is out", 1, () -> yard.through(2, 0));
    }

    private static void lanes() {
        GateSteps yard = Due.yard(1, 8, 8);
        yard.check(2, 3, 2);
        int[] due = {0, 1, 0, 2, 1, 0};
        for (int i = 0; i < due.length; i++) {
            int booking = i + 1;
            int lane = due[i];
            yard.book(0, i, i);
            yard.through(booking, 5);
            Due.is("lane of " + booking, lane, () -> yard.look(booking, 4));
        }
        // lane 0 has three and lane 1 two: two leave lane 0, so that it has fewer
        yard.weigh(0, 1000, 6);
        yard.weigh(0, 1000, 6);
        yard.book(0, 6, 6);
        yard.through(7, 7);
        Due.is("lane with fewer", 0, () -> yard.look(7, 4));
        yard.book(0, 7, 7);
        yard.through(8, 7);
        Due.is("0 of equal ones", 0, () -> yard.look(8, 4));
    }

    private static void wrongCalls() {
        GateSteps yard = Due.yard(1, 1, 1);
        yard.book(0, 0, 0);
        yard.noShow(50);
        for (int booking : new int[] {Integer.MIN_VALUE, -1, 0, 2, 61, Integer.MAX_VALUE}) {
            Due.index("booking " + booking, () -> yard.through(booking, 60));
            Due.index("booking " + booking + " ahead of a wrong time", () -> yard.through(booking, -1));
        }
        for (int time : new int[] {Integer.MIN_VALUE, -1, 0, 49, 100001, Integer.MAX_VALUE}) {
            Due.argument("time " + time, () -> yard.through(1, time));
        }
        Due.is("time stays", 50, () -> yard.count(0));
        Due.is("booking stays open", 0, () -> yard.look(1, 3));
        Due.is("NOW itself can be", 1, () -> yard.through(1, 50));
    }

    private static void timeGoesOn() {
        GateSteps yard = Due.yard(1, 1, 1);
        yard.book(0, 0, 0);
        Due.is("late", -2, () -> yard.through(1, 720));
        Due.is("it is that time all the same", 720, () -> yard.count(0));
        Due.argument("so no time ahead of it can be", () -> yard.through(1, 719));
        Due.is("the latest time", -2, () -> yard.through(1, 100000));
        Due.is("again", -2, () -> yard.through(1, 100000));
    }

    private static void queues() {
        GateSteps yard = Due.yard(2, 8, 16);
        for (int i = 0; i < 16; i++) {
            yard.check(1, i, 2);
            yard.book(i / 8, i, i);
        }
        for (int i = 0; i < 16; i++) {
            int booking = 16 - i;
            Due.is("through of " + booking, 1, () -> yard.through(booking, 550));
        }
        for (int i = 0; i < 16; i++) {
            int place = i;
            Due.is("place " + i, 16 - i, () -> yard.queue(2, place));
        }
        Due.is("all in lane 2", 16, () -> yard.count(6));
        for (int i : new int[] {Integer.MIN_VALUE, -1, 16, 60, Integer.MAX_VALUE}) {
            Due.is("no place " + i, -1, () -> yard.queue(2, i));
        }
        for (int lane : new int[] {Integer.MIN_VALUE, -1, 0, 1, 3, Integer.MAX_VALUE}) {
            Due.is("none in lane " + lane, -1, () -> yard.queue(lane, 0));
        }
        yard.weigh(2, 0, 550);
        Due.is("the next is first", 15, () -> yard.queue(2, 0));
        Due.is("none at the end", -1, () -> yard.queue(2, 15));
    }
}

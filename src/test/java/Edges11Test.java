/** Promise 11, noShow: each sentence that names an edge has a test of its own. */
public final class Edges11Test {
    public static void main(String[] args) {
        Due.sentence("when NOW is more than GRACE behind their slot's last second", Edges11Test::edgeOfGrace);
        Due.sentence("how many are ENDED", Edges11Test::howMany);
        Due.sentence("how many are ENDED: none twice", Edges11Test::noneTwice);
        Due.sentence("NO SHOWS are OPEN bookings", Edges11Test::openAlone);
        Due.sentence("they are ENDED when that is asked", Edges11Test::whenAsked);
        Due.sentence("they are ENDED: what they held is free", Edges11Test::freed);
        Due.sentence("NO SHOWS at a time: it is NOW", Edges11Test::time);
        Due.sentence("IllegalArgumentException if the time can't be: 0 .. 100000", Edges11Test::timeOutside);
        Due.sentence("IllegalArgumentException if the time can't be: from NOW on", Edges11Test::timeAheadOfNow);
        Due.sentence("What throws changes nothing.", Edges11Test::nothingChanged);
        Due.end();
    }

    private static void edgeOfGrace() {
        for (int slot : new int[] {0, 1, 12, 23}) {
            int last = 600 * slot + 599;
            GateSteps yard = Yards.oneOpen(slot);
            Due.is("slot " + slot + ", its last second", 0, () -> yard.noShow(last));
            Due.is("slot " + slot + ", 120 behind", 0, () -> yard.noShow(last + 120));
            Due.is("still OPEN", 0, () -> yard.look(1, 3));
            Due.is("slot " + slot + ", 121 behind", 1, () -> yard.noShow(last + 121));
            Due.is("ENDED", 3, () -> yard.look(1, 3));
        }
    }

    private static void howMany() {
        GateSteps none = new GateSteps(1, 1);
        Due.is("no bookings", 0, () -> none.noShow(100000));
        GateSteps yard = Due.yard(3, 8, 20);
        for (int i = 0; i < 20; i++) {
            yard.book(2 - i / 8, 0, i);
        }
        Due.is("none of 20", 0, () -> yard.noShow(719));
        Due.is("slot 0", 4, () -> yard.noShow(720));
        Due.is("slots 1 and 2", 16, () -> yard.noShow(100000));
        for (int i = 0; i < 3; i++) {
            int slot = i;
            Due.is("slot " + i, 0, () -> yard.count(100 + slot));
        }
    }

    private static void noneTwice() {
        GateSteps yard = Yards.oneOpen(0);
        Due.is("first", 1, () -> yard.noShow(720));
        Due.is("again", 0, () -> yard.noShow(720));
        Due.is("later", 0, () -> yard.noShow(100000));
        Due.is("the slot has none", 0, () -> yard.count(100));
    }

    private static void openAlone() {
        GateSteps yard = Yards.busy();
        Due.is("of five one is OPEN", 1, () -> yard.noShow(100000));
        int[] states = {2, 1, 1, 3, 3};
        for (int i = 0; i < 5; i++) {
            int booking = i + 1;
            Due.is("state of " + booking, states[i], () -> yard.look(booking, 3));
        }
        Due.is("first of lane 0", 2, () -> yard.queue(0, 0));
        Due.is("first of lane 2", 3, () -> yard.queue(2, 0));
        Due.is("slot 0 has the DONE and the IN one", 2, () -> yard.count(100));
        Due.is("slot 1 has the IN one", 1, () -> yard.count(101));
    }

    private static void whenAsked() {
        GateSteps yard = Due.yard(1, 2, 2);
        yard.book(0, 0, 0);
        yard.weigh(0, 0, 5000);
        Due.is("OPEN, though weigh told the time", 0, () -> yard.look(1, 3));
        Due.is("its box is held", 0, () -> yard.book(0, 0, 0));
        yard.through(1, 6000);
        Due.is("OPEN, though through told the time", 0, () -> yard.look(1, 3));
        Due.is("its slot has it", 1, () -> yard.count(100));
        Due.is("ENDED when asked", 1, () -> yard.noShow(6000));
        yard.book(0, 0, 1);
        Due.is("booked too late it is OPEN", 0, () -> yard.look(2, 3));
        Due.is("until that is asked", 1, () -> yard.noShow(6000));
    }

    private static void freed() {
        GateSteps yard = Due.yard(2, 1, 2);
        yard.book(0, 0, 0);
        Due.is("the slot is full", -2, () -> yard.book(0, 0, 1));
        yard.noShow(720);
        Due.is("the slot has room", 0, () -> yard.count(100));
        Due.is("for another box", 2, () -> yard.book(0, 0, 1));
        Due.is("the box can be booked", 3, () -> yard.book(1, 0, 0));
        Due.is("and comes through", 1, () -> yard.through(3, 720));
        Due.is("the ENDED one keeps its slot", 0, () -> yard.look(1, 0));
        Due.is("bookings", 3, () -> yard.count(1));
    }

    private static void time() {
        GateSteps yard = Yards.oneOpen(23);
        for (int time : new int[] {0, 0, 1, 99999, 100000, 100000}) {
            yard.noShow(time);
            Due.is("NOW", time, () -> yard.count(0));
        }
    }

    private static void timeOutside() {
        GateSteps yard = Yards.oneOpen(0);
        for (int time : new int[] {Integer.MIN_VALUE, -1, 100001, Integer.MAX_VALUE}) {
            Due.argument("time " + time, () -> yard.noShow(time));
        }
        Due.is("time 0", 0, () -> yard.noShow(0));
        Due.is("time 100000", 1, () -> yard.noShow(100000));
    }

    private static void timeAheadOfNow() {
        GateSteps yard = Yards.busy();
        for (int time : new int[] {0, 500, 649}) {
            Due.argument("time " + time, () -> yard.noShow(time));
        }
        Due.is("NOW itself", 0, () -> yard.noShow(650));
    }

    private static void nothingChanged() {
        Due.refused("ahead of NOW", "IllegalArgumentException", Yards::busy, y -> y.noShow(649));
        Due.refused("behind all time", "IllegalArgumentException", Yards::busy, y -> y.noShow(100001));
        Due.refused("below 0", "IllegalArgumentException", Yards::busy, y -> y.noShow(-1));
    }
}

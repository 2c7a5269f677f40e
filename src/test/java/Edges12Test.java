/** Promise 12, change: each sentence that names an edge has a test of its own. */
public final class Edges12Test {
    public static void main(String[] args) {
        Due.sentence("An OPEN booking goes to another slot: 1", Edges12Test::toAnother);
        Due.sentence("0 if it is not OPEN", Edges12Test::notOpen);
        Due.sentence("0 if .. that is its own", Edges12Test::itsOwn);
        Due.sentence("0 is told ahead of a full slot", Edges12Test::zeroAheadOfFull);
        Due.sentence("if it is full as book() tells: the next slot behind it with room", Edges12Test::full);
        Due.sentence("if it is full as book() tells: none behind it", Edges12Test::noneBehind);
        Due.sentence("if it is full: with all that are not ENDED", Edges12Test::withAllNotEnded);
        Due.sentence("if it is full the booking stays", Edges12Test::stays);
        Due.sentence("IndexOutOfBoundsException if there is no such booking", Edges12Test::noSuchBooking);
        Due.sentence("IndexOutOfBoundsException if there is no such .. slot", Edges12Test::noSuchSlot);
        Due.sentence("an exception is thrown ahead of 0", Edges12Test::aheadOfZero);
        Due.sentence("What throws changes nothing.", Edges12Test::nothingChanged);
        Due.end();
    }

    private static void toAnother() {
        GateSteps yard = Yards.oneOpen(0);
        for (int slot : new int[] {23, 0, 1, 22}) {
            int from = yard.look(1, 0);
            Due.is("change to " + slot, 1, () -> yard.change(1, slot));
            Due.is("slot", slot, () -> yard.look(1, 0));
            Due.is("new slot", 1, () -> yard.count(100 + slot));
            Due.is("old slot", 0, () -> yard.count(100 + from));
        }
        Due.is("still OPEN", 0, () -> yard.look(1, 3));
        Due.is("its box is held", 0, () -> yard.book(5, 0, 0));
        Due.is("bookings", 1, () -> yard.count(1));
        GateSteps late = Yards.oneOpen(0);
        late.through(1, 800);
        Due.is("when its slot is over", 1, () -> late.change(1, 1));
        Due.is("it comes through in the new one", 1, () -> late.through(1, 800));
        GateSteps back = Yards.oneOpen(1);
        back.weigh(0, 0, 800);
        Due.is("to a slot that is over", 1, () -> back.change(1, 0));
        Due.is("it does not come through", -2, () -> back.through(1, 800));
    }

    private static void notOpen() {
        GateSteps yard = Yards.busy();
        for (int booking : new int[] {1, 2, 3, 5}) {
            int from = yard.look(booking, 0);
            Due.is("change of " + booking, 0, () -> yard.change(booking, 2));
            Due.is("slot stays", from, () -> yard.look(booking, 0));
        }
        Due.is("none in the other slot", 0, () -> yard.count(102));
        GateSteps late = Yards.oneOpen(0);
        late.noShow(720);
        Due.is("not come", 0, () -> late.change(1, 1));
    }

    private static void itsOwn() {
        GateSteps yard = Yards.busy();
        Due.is("its own", 0, () -> yard.change(4, 1));
        Due.is("stays OPEN", 0, () -> yard.look(4, 3));
        Due.is("its slot has as many", 2, () -> yard.count(101));
        GateSteps last = Yards.oneOpen(23);
        Due.is("the last slot", 0, () -> last.change(1, 23));
        GateSteps first = Yards.oneOpen(0);
        Due.is("the first slot", 0, () -> first.change(1, 0));
    }

    private static void zeroAheadOfFull() {
        GateSteps yard = Due.yard(3, 1, 3);
        yard.book(0, 0, 0);
        Due.is("its own, full with itself", 0, () -> yard.change(1, 0));
        yard.book(1, 1, 1);
        yard.through(1, 0);
        Due.is("IN, to a full one", 0, () -> yard.change(1, 1));
        yard.weigh(0, 1000, 0);
        Due.is("DONE, to a full one", 0, () -> yard.change(1, 1));
        GateSteps ended = Due.yard(2, 1, 2);
        ended.book(0, 0, 0);
        ended.noShow(720);
        ended.book(1, 0, 1);
        Due.is("ENDED, to a full one", 0, () -> ended.change(1, 1));
    }

    private static void full() {
        GateSteps yard = Due.yard(5, 1, 5);
        yard.book(0, 0, 0);
        yard.book(1, 0, 1);
        Due.is("the next", -3, () -> yard.change(1, 1));
        yard.book(2, 0, 2);
        Due.is("the one behind the next", -4, () -> yard.change(1, 1));
        Due.is("its own is full with itself", -4, () -> yard.change(3, 1));
        Due.is("from behind", -4, () -> yard.change(3, 0));
        GateSteps wide = Due.yard(4, 2, 3);
        wide.book(1, 0, 0);
        wide.book(1, 0, 1);
        wide.book(2, 0, 2);
        Due.is("its own has room", -3, () -> wide.change(3, 1));
    }

    private static void noneBehind() {
        GateSteps yard = Due.yard(3, 1, 3);
        yard.book(0, 0, 0);
        yard.book(2, 0, 1);
        Due.is("the last, though one ahead of it has room", -4, () -> yard.change(1, 2));
        yard.book(1, 0, 2);
        Due.is("all are full", -4, () -> yard.change(1, 1));
        Due.is("back to the first, all are full", -4, () -> yard.change(2, 0));
        GateSteps wide = Due.yard(24, 1, 2);
        wide.book(22, 0, 0);
        wide.book(23, 0, 1);
        Due.is("the last of 24", -25, () -> wide.change(1, 23));
    }

    private static void withAllNotEnded() {
        GateSteps yard = Due.yard(2, 1, 2);
        yard.book(0, 0, 0);
        yard.book(1, 1, 1);
        Due.is("an OPEN one", -3, () -> yard.change(2, 0));
        yard.through(1, 0);
        Due.is("an IN one", -3, () -> yard.change(2, 0));
        yard.check(0, 0, 0);
        Due.is("an ENDED one takes no room", 1, () -> yard.change(2, 0));
        GateSteps done = Due.yard(2, 1, 2);
        done.book(0, 0, 0);
        done.book(1, 1, 1);
        done.through(1, 0);
        done.weigh(0, 1000, 0);
        Due.is("a DONE one", -3, () -> done.change(2, 0));
    }

    private static void stays() {
        GateSteps yard = Due.yard(3, 1, 2);
        yard.book(0, 0, 0);
        yard.book(1, 0, 1);
        Due.is("full", -3, () -> yard.change(1, 1));
        Due.is("slot", 0, () -> yard.look(1, 0));
        Due.is("OPEN", 0, () -> yard.look(1, 3));
        Due.is("slot 0", 1, () -> yard.count(100));
        Due.is("slot 1", 1, () -> yard.count(101));
        Due.is("slot 2", 0, () -> yard.count(102));
        Due.is("comes through in its own", 1, () -> yard.through(1, 0));
    }

    private static void noSuchBooking() {
        GateSteps none = Due.yard(2, 1, 1);
        Due.index("booking 1 of none", () -> none.change(1, 1));
        GateSteps yard = Yards.busy();
        for (int booking : new int[] {Integer.MIN_VALUE, -1, 0, 6, 60, 61, Integer.MAX_VALUE}) {
            Due.index("booking " + booking, () -> yard.change(booking, 2));
        }
        GateSteps sixty = Yards.sixtyBookings();
        Due.index("booking 61 of 60", () -> sixty.change(61, 1));
        Due.is("booking 60 of 60", 1, () -> sixty.change(60, 1));
    }

    private static void noSuchSlot() {
        GateSteps yard = Yards.busy();
        for (int slot : new int[] {Integer.MIN_VALUE, -1, 3, 23, 24, Integer.MAX_VALUE}) {
            Due.index("slot " + slot, () -> yard.change(4, slot));
        }
        Due.is("the last slot", 1, () -> yard.change(4, 2));
        Due.index("slot 24 of 24", () -> Yards.oneOpen(0).change(1, 24));
        Due.is("slot 23 of 24", 1, () -> Yards.oneOpen(0).change(1, 23));
    }

    private static void aheadOfZero() {
        GateSteps yard = Yards.busy();
        for (int booking : new int[] {1, 2, 3, 5}) {
            Due.index("not OPEN, slot 3", () -> yard.change(booking, 3));
            Due.index("not OPEN, slot -1", () -> yard.change(booking, -1));
        }
    }

    private static void nothingChanged() {
        Due.refused("no booking", "IndexOutOfBoundsException", Yards::busy, y -> y.change(6, 2));
        Due.refused("booking 0", "IndexOutOfBoundsException", Yards::busy, y -> y.change(0, 2));
        Due.refused("no slot", "IndexOutOfBoundsException", Yards::busy, y -> y.change(4, 3));
        Due.refused("slot -1", "IndexOutOfBoundsException", Yards::busy, y -> y.change(4, -1));
    }
}

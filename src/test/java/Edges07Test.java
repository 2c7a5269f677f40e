/** Promise 7, book: each sentence that names an edge has a test of its own. */
public final class Edges07Test {
    public static void main(String[] args) {
        Due.sentence("BOOKINGS 1, 2, ..: its number", Edges07Test::numbers);
        Due.sentence("0 if the box has one that is OPEN", Edges07Test::openOne);
        Due.sentence("0 if the box has one that is .. IN", Edges07Test::inOne);
        Due.sentence("0 if the box has one that is .. DONE", Edges07Test::doneOne);
        Due.sentence("0 if the box has one: an ENDED one is none such", Edges07Test::endedOne);
        Due.sentence("0 if the box has one, told ahead of a full slot", Edges07Test::heldAheadOfFull);
        Due.sentence("if the slot is full", Edges07Test::full);
        Due.sentence("(with all that are not ENDED): OPEN, IN and DONE ones take room", Edges07Test::takeRoom);
        Due.sentence("(with all that are not ENDED): ENDED ones take none", Edges07Test::takeNone);
        Due.sentence("-1 less the next slot behind it with room", Edges07Test::nextSlot);
        Due.sentence("-1 less the number of slots if there is none", Edges07Test::noSlot);
        Due.sentence("IndexOutOfBoundsException if there is no such slot", Edges07Test::noSuchSlot);
        Due.sentence("IndexOutOfBoundsException if there is no such .. truck", Edges07Test::noSuchTruck);
        Due.sentence("IndexOutOfBoundsException if there is no such .. box", Edges07Test::noSuchBox);
        Due.sentence("IllegalStateException if there are 60.", Edges07Test::sixty);
        Due.sentence("BOOKINGS .. (60 at most): the sixtieth is one like any other", Edges07Test::sixtieth);
        Due.sentence("Of several exceptions the one told first is thrown.", Edges07Test::order);
        Due.sentence("an exception is thrown ahead of 0 and of a full slot", Edges07Test::aheadOfAnswers);
        Due.sentence("What throws changes nothing.", Edges07Test::nothingChanged);
        Due.sentence("an answer that is no number makes no booking", Edges07Test::noBooking);
        Due.end();
    }

    private static void numbers() {
        GateSteps yard = Due.yard(24, 8, 20);
        for (int i = 0; i < 20; i++) {
            int box = i;
            Due.is("booking", i + 1, () -> yard.book(23 - box, box % 16, 19 - box));
        }
        Due.is("bookings", 20, () -> yard.count(1));
        Due.is("slot of the last", 4, () -> yard.look(20, 0));
        Due.is("truck of the last", 3, () -> yard.look(20, 1));
        Due.is("box of the last", 0, () -> yard.look(20, 2));
    }

    private static void openOne() {
        GateSteps yard = Due.yard(2, 8, 1);
        yard.book(0, 0, 0);
        Due.is("in its slot", 0, () -> yard.book(0, 0, 0));
        Due.is("in another, with another truck", 0, () -> yard.book(1, 1, 0));
        yard.noShow(100000 - 1);
        Due.is("an ENDED one is no OPEN one", 2, () -> yard.book(0, 0, 0));
        Due.is("but this is", 0, () -> yard.book(1, 1, 0));
    }

    private static void inOne() {
        GateSteps yard = Yards.oneIn(1000);
        Due.is("IN lane 0", 0, () -> yard.book(0, 1, 0));
        yard.weigh(0, 0, 0);
        Due.is("IN lane 2", 0, () -> yard.book(0, 1, 0));
    }

    private static void doneOne() {
        GateSteps yard = Yards.oneIn(1000);
        yard.weigh(0, 1000, 0);
        Due.is("DONE", 0, () -> yard.book(0, 1, 0));
        yard.noShow(100000);
        Due.is("for all time", 0, () -> yard.book(0, 0, 0));
    }

    private static void endedOne() {
        GateSteps yard = Yards.oneIn(1000);
        yard.check(0, 0, 0);
        Due.is("withdrawn", 2, () -> yard.book(0, 1, 0));
        yard.noShow(720);
        Due.is("not come", 3, () -> yard.book(0, 1, 0));
    }

    private static void heldAheadOfFull() {
        GateSteps yard = Yards.oneIn(1000);
        Due.is("a held box in a full slot", 0, () -> yard.book(0, 0, 0));
    }

    private static void full() {
        for (int m = 1; m <= 8; m++) {
            int most = m;
            GateSteps yard = Due.yard(2, most, most + 1);
            for (int i = 0; i < most; i++) {
                int box = i;
                Due.is("room for " + most, box + 1, () -> yard.book(0, 0, box));
            }
            Due.is("no room behind " + most, -2, () -> yard.book(0, 0, most));
        }
    }

    private static void takeRoom() {
        GateSteps yard = Due.yard(2, 3, 4);
        for (int i = 0; i < 3; i++) {
            yard.book(0, i, i);
        }
        Due.is("three OPEN ones", -2, () -> yard.book(0, 3, 3));
        yard.through(1, 0);
        Due.is("one is IN", -2, () -> yard.book(0, 3, 3));
        yard.through(2, 0);
        yard.weigh(0, 1000, 0);
        Due.is("one is IN, one DONE", -2, () -> yard.book(0, 3, 3));
        yard.weigh(1, 0, 0);
        Due.is("one is IN lane 2", -2, () -> yard.book(0, 3, 3));
    }

    private static void takeNone() {
        GateSteps yard = Yards.oneIn(1000);
        Due.addBox(yard, 1, 1000, false);
        Due.is("full", -2, () -> yard.book(0, 0, 1));
        yard.check(0, 0, 0);
        Due.is("withdrawn", 2, () -> yard.book(0, 0, 1));
        Due.is("full again", -2, () -> yard.book(0, 0, 0));
        yard.noShow(720);
        Due.is("not come", 3, () -> yard.book(0, 0, 0));
    }

    private static void nextSlot() {
        GateSteps yard = Due.yard(24, 1, 20);
        for (int i = 0; i < 19; i++) {
            int slot = i;
            yard.book(slot, 0, slot);
            Due.is("behind slot " + i, -1 - (slot + 1), () -> yard.book(slot, 0, 19));
            Due.is("behind slot 0", -1 - (slot + 1), () -> yard.book(0, 0, 19));
        }
        GateSteps gap = Due.yard(4, 2, 6);
        gap.book(0, 0, 0);
        gap.book(1, 0, 1);
        gap.book(1, 0, 2);
        Due.is("one ahead of it with room does not count", -3, () -> gap.book(1, 0, 3));
        gap.book(2, 0, 3);
        Due.is("room for one more is room", -3, () -> gap.book(1, 0, 4));
    }

    private static void noSlot() {
        GateSteps one = Due.yard(1, 1, 2);
        one.book(0, 0, 0);
        Due.is("one slot", -2, () -> one.book(0, 0, 1));
        GateSteps all = Due.yard(24, 1, 2);
        all.book(23, 0, 0);
        Due.is("the last of 24", -25, () -> all.book(23, 0, 1));
        GateSteps three = Due.yard(3, 1, 3);
        three.book(1, 0, 0);
        three.book(2, 0, 1);
        Due.is("room ahead of it alone", -4, () -> three.book(1, 0, 2));
        Due.is("room ahead of the last alone", -4, () -> three.book(2, 0, 2));
    }

    private static void noSuchSlot() {
        for (int slots : new int[] {1, 3, 24}) {
            GateSteps yard = Due.yard(slots, 1, 1);
            for (int slot : new int[] {Integer.MIN_VALUE, -1, slots, 25, 100, Integer.MAX_VALUE}) {
                Due.index("slot " + slot + " of " + slots, () -> yard.book(slot, 0, 0));
            }
            Due.is("the last slot", 1, () -> yard.book(slots - 1, 0, 0));
        }
    }

    private static void noSuchTruck() {
        GateSteps yard = Due.yard(1, 8, 2);
        for (int truck : new int[] {Integer.MIN_VALUE, -1, 16, 17, Integer.MAX_VALUE}) {
            Due.index("truck " + truck, () -> yard.book(0, truck, 0));
        }
        Due.is("truck 0", 1, () -> yard.book(0, 0, 0));
        Due.is("truck 15", 2, () -> yard.book(0, 15, 1));
    }

    private static void noSuchBox() {
        GateSteps none = new GateSteps(1, 1);
        Due.index("box 0 of none", () -> none.book(0, 0, 0));
        GateSteps two = Due.yard(1, 8, 2);
        for (int box : new int[] {Integer.MIN_VALUE, -1, 2, 19, 20, Integer.MAX_VALUE}) {
            Due.index("box " + box + " of two", () -> two.book(0, 0, box));
        }
        Due.is("box 1 of two", 1, () -> two.book(0, 0, 1));
        GateSteps twenty = Yards.twentyBoxes("");
        Due.index("box 20 of twenty", () -> twenty.book(0, 0, 20));
        Due.is("box 19 of twenty", 1, () -> twenty.book(0, 0, 19));
    }

    private static void sixty() {
        GateSteps yard = Due.yard(1, 8, 8);
        yard.noShow(720);
        for (int i = 1; i <= 60; i++) {
            int number = i;
            Due.is("booking", number, () -> yard.book(0, 0, number % 8));
            if (i % 8 == 0) {
                yard.noShow(720);
            }
        }
        Due.state("one more", () -> yard.book(0, 0, 5));
        yard.noShow(720);
        Due.state("ENDED ones are counted, too", () -> yard.book(0, 0, 5));
        Due.is("bookings", 60, () -> yard.count(1));
    }

    private static void sixtieth() {
        GateSteps yard = Yards.sixtyBookings();
        Due.is("change", 1, () -> yard.change(60, 1));
        Due.is("through", 1, () -> yard.through(60, 730));
        Due.is("queue", 60, () -> yard.queue(0, 0));
        Due.is("lane", 0, () -> yard.look(60, 4));
        Due.is("weigh", -60, () -> yard.weigh(0, 0, 740));
        Due.is("weigh in lane 2", 60, () -> yard.weigh(2, 0, 750));
        Due.is("TURN", 20, () -> yard.look(60, 5));
        GateSteps withdrawn = Yards.sixtyBookings();
        withdrawn.change(60, 1);
        withdrawn.through(60, 730);
        Due.is("withdrawn", 1, () -> withdrawn.check(0, 3, 0));
        GateSteps late = Yards.sixtyBookings();
        Due.is("not come, with three others", 4, () -> late.noShow(730));
        Due.is("ENDED", 3, () -> late.look(60, 3));
    }

    private static void order() {
        GateSteps yard = Yards.sixtyBookings();
        Due.index("no slot with 60", () -> yard.book(2, 0, 5));
        Due.index("slot -1 with 60", () -> yard.book(-1, 0, 5));
        Due.index("no truck with 60", () -> yard.book(0, 16, 5));
        Due.index("no box with 60", () -> yard.book(0, 0, 8));
        Due.state("all there with 60", () -> yard.book(0, 0, 5));
    }

    private static void aheadOfAnswers() {
        GateSteps yard = Yards.oneIn(1000);
        Due.index("a held box, no truck", () -> yard.book(0, 16, 0));
        Due.index("a held box, no slot", () -> yard.book(1, 0, 0));
        Due.index("a full slot, no box", () -> yard.book(0, 0, 1));
        Due.state("a held box with 60", () -> Yards.sixtyBookings().book(1, 0, 0));
        GateSteps full = Due.yard(1, 8, 9);
        full.noShow(720);
        for (int i = 1; i <= 60; i++) {
            full.book(0, 0, (i + 3) % 8);
            if (i < 56 && i % 8 == 4) {
                full.noShow(720);
            }
        }
        Due.is("the slot is full with 60", 8, () -> full.count(100));
        Due.state("a full slot with 60", () -> full.book(0, 0, 8));
    }

    private static void nothingChanged() {
        Due.refused("no slot", "IndexOutOfBoundsException", Yards::busy, y -> y.book(3, 0, 5));
        Due.refused("slot -1", "IndexOutOfBoundsException", Yards::busy, y -> y.book(-1, 0, 5));
        Due.refused("no truck", "IndexOutOfBoundsException", Yards::busy, y -> y.book(0, 16, 5));
        Due.refused("no box", "IndexOutOfBoundsException", Yards::busy, y -> y.book(0, 0, 6));
        Due.refused("one more than 60", "IllegalStateException", Yards::sixtyBookings, y -> y.book(0, 0, 5));
    }

    private static void noBooking() {
        GateSteps held = Yards.busy();
        held.book(2, 9, 3);
        Due.same("the yard behind 0", Picture.of(held), Picture.of(Yards.busy()));
        GateSteps full = Due.yard(2, 1, 2);
        full.book(0, 0, 0);
        Due.is("full", -2, () -> full.book(0, 1, 1));
        Due.is("bookings", 1, () -> full.count(1));
        Due.is("slot 0", 1, () -> full.count(100));
        Due.is("slot 1", 0, () -> full.count(101));
        Due.is("the next number", 2, () -> full.book(1, 1, 1));
    }
}

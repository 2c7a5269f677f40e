/** Promises 7, 12 and 14: book, change, look. */
public final class BookingsTest {
    public static void main(String[] args) {
        numbers();
        wrongBookings();
        heldBoxes();
        fullSlots();
        sixtyBookings();
        changes();
        changesToFullSlots();
        changesOfOthers();
        wrongChanges();
        looks();
        Due.end();
    }

    private static void numbers() {
        GateSteps yard = Due.yard(3, 2, 4);
        Due.is("first", 1, () -> yard.book(2, 15, 3));
        Due.is("second, of the same truck", 2, () -> yard.book(2, 15, 1));
        Due.is("slot", 2, () -> yard.look(1, 0));
        Due.is("truck", 15, () -> yard.look(1, 1));
        Due.is("box", 3, () -> yard.look(1, 2));
        Due.is("open", 0, () -> yard.look(1, 3));
        Due.is("in no lane", -1, () -> yard.look(1, 4));
        Due.is("without a turn", -1, () -> yard.look(1, 5));
        Due.is("bookings", 2, () -> yard.count(1));
        Due.is("of the slot", 2, () -> yard.count(102));
        yard.noShow(100000);
        Due.is("a slot that is over can be booked", 3, () -> yard.book(0, 0, 0));
    }

    private static void wrongBookings() {
        GateSteps yard = Due.yard(3, 1, 2);
        for (int slot : new int[] {Integer.MIN_VALUE, -1, 3, 24, Integer.MAX_VALUE}) {
            Due.index("slot " + slot, () -> yard.book(slot, 0, 0));
        }
        for (int truck : new int[] {Integer.MIN_VALUE, -1, 16, Integer.MAX_VALUE}) {
            Due.index("truck " + truck, () -> yard.book(0, truck, 0));
        }
        for (int box : new int[] {Integer.MIN_VALUE, -1, 2, 20, Integer.MAX_VALUE}) {
            Due.index("box " + box, () -> yard.book(0, 0, box));
        }
        Due.is("no bookings of that", 0, () -> yard.count(1));
        Due.is("nothing in the slot", 0, () -> yard.count(100));
    }

    private static void heldBoxes() {
        GateSteps yard = Due.yard(3, 1, 3);
        yard.book(0, 0, 0);
        Due.is("open", 0, () -> yard.book(1, 1, 0));
        Due.is("open, ahead of a full slot", 0, () -> yard.book(0, 1, 0));
        yard.through(1, 0);
        Due.is("in", 0, () -> yard.book(1, 1, 0));
        yard.weigh(0, 1000, 0);
        Due.is("done", 0, () -> yard.book(1, 1, 0));
        Due.is("no bookings of that", 1, () -> yard.count(1));
        yard.book(1, 0, 1);
        yard.noShow(1320);
        Due.is("ended", 3, () -> yard.book(1, 1, 1));
    }

    private static void fullSlots() {
        GateSteps yard = Due.yard(4, 2, 9);
        yard.book(1, 0, 0);
        yard.book(1, 0, 1);
        Due.is("the next one", -3, () -> yard.book(1, 0, 2));
        yard.book(2, 0, 2);
        Due.is("the next one with one of two", -3, () -> yard.book(1, 0, 3));
        yard.book(2, 0, 3);
        Due.is("the one behind a full one", -4, () -> yard.book(1, 0, 4));
        yard.book(3, 0, 4);
        yard.book(3, 0, 5);
        Due.is("none behind, though one is ahead", -5, () -> yard.book(1, 0, 6));
        Due.is("none behind the last", -5, () -> yard.book(3, 0, 6));
        Due.is("no bookings of that", 6, () -> yard.count(1));
        Due.is("room ahead", 7, () -> yard.book(0, 0, 6));
        yard.through(1, 600);
        yard.weigh(0, 1000, 600);
        Due.is("a done one takes room", -5, () -> yard.book(1, 0, 7));
        yard.through(2, 600);
        Due.is("one that is in takes room", -5, () -> yard.book(1, 0, 7));
        yard.check(0, 1, 0);
        Due.is("an ended one takes none", 8, () -> yard.book(1, 0, 7));
        Due.is("full again", 2, () -> yard.count(101));
        GateSteps wide = Due.yard(24, 1, 2);
        wide.book(23, 0, 0);
        Due.is("none behind the last of 24", -25, () -> wide.book(23, 0, 1));
    }

    private static void sixtyBookings() {
        GateSteps yard = Due.yard(24, 8, 2);
        for (int i = 1; i <= 59; i++) {
            int number = i;
            Due.is("booking " + i, number, () -> yard.book(0, 0, 0));
            yard.through(i, 0);
            yard.check(0, 0, 0);
            yard.check(0, 0, 1);
        }
        Due.is("booking 60", 60, () -> yard.book(0, 1, 1));
        Due.state("booking 61", () -> yard.book(0, 0, 0));
        Due.state("a held box with 60", () -> yard.book(0, 0, 1));
        Due.index("a wrong slot ahead of 60", () -> yard.book(24, 0, 0));
        Due.index("a wrong truck ahead of 60", () -> yard.book(0, 16, 0));
        Due.index("a wrong box ahead of 60", () -> yard.book(0, 0, 2));
        Due.is("bookings", 60, () -> yard.count(1));
        Due.is("through with 60", 1, () -> yard.through(60, 0));
        Due.is("in its lane", 60, () -> yard.queue(0, 0));
        Due.index("look at 61", () -> yard.look(61, 0));
        Due.is("done with 60", 60, () -> yard.weigh(0, 1000, 8));
        Due.is("turn of 60", 8, () -> yard.look(60, 5));
    }

    private static void changes() {
        GateSteps yard = Due.yard(3, 1, 3);
        yard.book(0, 0, 0);
        Due.is("to its own", 0, () -> yard.change(1, 0));
        Due.is("to another", 1, () -> yard.change(1, 2));
        Due.is("slot", 2, () -> yard.look(1, 0));
        Due.is("old slot", 0, () -> yard.count(100));
        Due.is("new slot", 1, () -> yard.count(102));
        Due.is("its own that is full", 0, () -> yard.change(1, 2));
        Due.is("still open", 0, () -> yard.look(1, 3));
        Due.is("the old slot has room", 2, () -> yard.book(0, 1, 1));
        Due.is("bar of the new slot", -2, () -> yard.through(1, 0));
        Due.is("through in the new slot", 1, () -> yard.through(1, 1200));
    }

    private static void changesToFullSlots() {
        GateSteps yard = Due.yard(4, 1, 5);
        yard.book(0, 0, 0);
        yard.book(1, 0, 1);
        Due.is("full", -3, () -> yard.change(1, 1));
        yard.book(2, 0, 2);
        Due.is("full and the next too", -4, () -> yard.change(1, 1));
        Due.is("the next is full with the booking itself", -4, () -> yard.change(3, 1));
        yard.book(3, 0, 3);
        Due.is("none behind", -5, () -> yard.change(1, 1));
        Due.is("none behind the last", -5, () -> yard.change(1, 3));
        Due.is("slot stays", 0, () -> yard.look(1, 0));
        for (int i = 0; i < 4; i++) {
            int slot = i;
            Due.is("of slot " + i, 1, () -> yard.count(100 + slot));
        }
        GateSteps wide = Due.yard(4, 2, 5);
        wide.book(1, 0, 0);
        wide.book(1, 0, 1);
        wide.book(2, 0, 2);
        Due.is("its own slot can be the next with room", -3, () -> wide.change(3, 1));
    }

    private static void changesOfOthers() {
        GateSteps yard = Due.yard(3, 1, 4);
        yard.book(0, 0, 0);
        yard.through(1, 0);
        Due.is("in", 0, () -> yard.change(1, 1));
        yard.weigh(0, 1000, 0);
        Due.is("done", 0, () -> yard.change(1, 1));
        yard.book(1, 1, 1);
        Due.is("not open ahead of full", 0, () -> yard.change(1, 1));
        yard.noShow(1320);
        Due.is("ended", 0, () -> yard.change(2, 2));
        Due.is("slot stays", 1, () -> yard.look(2, 0));
        Due.is("none there", 0, () -> yard.count(102));
    }

    private static void wrongChanges() {
        GateSteps yard = Due.yard(3, 1, 4);
        yard.book(0, 0, 0);
        for (int booking : new int[] {Integer.MIN_VALUE, -1, 0, 2, 61, Integer.MAX_VALUE}) {
            Due.index("change of " + booking, () -> yard.change(booking, 1));
        }
        for (int slot : new int[] {Integer.MIN_VALUE, -1, 3, 24, Integer.MAX_VALUE}) {
            Due.index("change to " + slot, () -> yard.change(1, slot));
        }
        yard.through(1, 0);
        Due.index("a wrong slot of one that is in", () -> yard.change(1, 3));
    }

    private static void looks() {
        GateSteps yard = Due.yard(3, 1, 4);
        yard.book(1, 2, 3);
        for (int what : new int[] {Integer.MIN_VALUE, -1, 6, 100, Integer.MAX_VALUE}) {
            Due.index("look for " + what, () -> yard.look(1, what));
        }
        for (int booking : new int[] {Integer.MIN_VALUE, -1, 0, 2, 61, Integer.MAX_VALUE}) {
            for (int i = 0; i <= 5; i++) {
                int what = i;
                Due.index("look at " + booking, () -> yard.look(booking, what));
            }
        }
        look(yard, "1 2 3 0 -1 -1");
        yard.through(1, 480);
        look(yard, "1 2 3 1 0 -1");
        yard.weigh(0, 0, 500);
        look(yard, "1 2 3 1 2 -1");
        yard.weigh(2, 0, 555);
        look(yard, "1 2 3 2 -1 75");
    }

    private static void look(GateSteps yard, String want) {
        StringBuilder got = new StringBuilder();
        for (int what = 0; what <= 5; what++) {
            got.append(what == 0 ? "" : " ").append(yard.look(1, what));
        }
        Due.same("look", got.toString(), want);
    }
}

/** Promise 1: a new object. */
public final class NewObjectTest {
    public static void main(String[] args) {
        slotsAreHeld();
        roomIsHeld();
        firstState();
        objectsAreApart();
        Due.end();
    }

    private static void slotsAreHeld() {
        slots(Integer.MIN_VALUE, 1);
        slots(-1, 1);
        slots(0, 1);
        slots(1, 1);
        slots(2, 2);
        slots(23, 23);
        slots(24, 24);
        slots(25, 24);
        slots(Integer.MAX_VALUE, 24);
    }

    private static void slots(int asked, int due) {
        GateSteps yard = Due.yard(asked, 1, 1);
        Due.is("last of " + asked + " slots", 0, () -> yard.count(100 + due - 1));
        Due.is("no slot behind " + asked, -1, () -> yard.count(100 + due));
        Due.index("book behind " + asked, () -> yard.book(due, 0, 0));
        Due.is("book in the last of " + asked, 1, () -> yard.book(due - 1, 0, 0));
    }

    private static void roomIsHeld() {
        room(Integer.MIN_VALUE, 1);
        room(0, 1);
        room(1, 1);
        room(7, 7);
        room(8, 8);
        room(9, 8);
        room(Integer.MAX_VALUE, 8);
    }

    private static void room(int asked, int due) {
        GateSteps yard = Due.yard(1, asked, 10);
        for (int i = 0; i < due; i++) {
            int box = i;
            Due.is("booking " + (i + 1) + " with room for " + asked, i + 1, () -> yard.book(0, 0, box));
        }
        Due.is("one more with room for " + asked, -2, () -> yard.book(0, 0, due));
    }

    private static void firstState() {
        GateSteps yard = new GateSteps(3, 3);
        for (int i = 0; i <= 9; i++) {
            int what = i;
            Due.is("count(" + what + ") at first", 0, () -> yard.count(what));
        }
        Due.is("letter at first", -1, yard::letter);
        Due.is("clear at first", 0, yard::clear);
        Due.is("queue at first", -1, () -> yard.queue(0, 0));
        Due.index("no box at first", () -> yard.at(0, 0));
        Due.index("no booking at first", () -> yard.look(1, 0));
    }

    private static void objectsAreApart() {
        GateSteps one = Due.yard(2, 2, 2);
        GateSteps other = new GateSteps(2, 2);
        one.book(0, 0, 0);
        one.noShow(5);
        one.check(4, 0, 0);
        Due.is("another's bookings", 0, () -> other.count(1));
        Due.is("another's boxes", 0, () -> other.count(2));
        Due.is("another's time", 0, () -> other.count(0));
    }
}

/** Promise 1, a new object: each sentence that names an edge has a test of its own. */
public final class Edges01Test {
    public static void main(String[] args) {
        Due.sentence("So many slots (1 ..", Edges01Test::tooFewSlots);
        Due.sentence("So many slots (.. 24, held to that)", Edges01Test::tooManySlots);
        Due.sentence("room for so many bookings each (1 ..", Edges01Test::tooLittleRoom);
        Due.sentence("room for so many bookings each (.. 8, held to that)", Edges01Test::tooMuchRoom);
        Due.sentence("each", Edges01Test::roomOfEachSlot);
        Due.sentence("TIME is in seconds, 0 at first", Edges01Test::firstTime);
        Due.sentence("RELEASE (bad at first)", Edges01Test::firstRelease);
        Due.sentence("1 SEAL, 2 DAMAGE, 3 PAPERS (good at first)", Edges01Test::firstVerdictsOfBoxes);
        Due.sentence("4 RIGHTS, 5 DRIVER (good at first)", Edges01Test::firstVerdictsOfTrucks);
        Due.sentence("the TOLERANCE (.. 25 at first", Edges01Test::firstTolerance);
        Due.sentence("a new object has an empty row, no boxes, no bookings and empty lanes", Edges01Test::empty);
        Due.end();
    }

    private static void slots(int asked, int held) {
        GateSteps yard = Due.yard(asked, 1, 2);
        Due.is("last slot of " + asked, 0, () -> yard.count(100 + held - 1));
        Due.is("no slot behind it", -1, () -> yard.count(100 + held));
        Due.index("no booking behind it", () -> yard.book(held, 0, 0));
        Due.is("a booking in the last slot", 1, () -> yard.book(held - 1, 0, 0));
        Due.is("none behind the last slot", -1 - held, () -> yard.book(held - 1, 0, 1));
    }

    private static void tooFewSlots() {
        for (int asked : new int[] {Integer.MIN_VALUE, -24, -1, 0, 1}) {
            slots(asked, 1);
        }
        slots(2, 2);
    }

    private static void tooManySlots() {
        slots(23, 23);
        for (int asked : new int[] {24, 25, 100, Integer.MAX_VALUE}) {
            slots(asked, 24);
        }
    }

    private static void room(int asked, int held) {
        GateSteps yard = Due.yard(1, asked, held + 1);
        for (int i = 0; i < held; i++) {
            int box = i;
            Due.is("booking with room for " + asked, box + 1, () -> yard.book(0, 0, box));
        }
        Due.is("no room with room for " + asked, -2, () -> yard.book(0, 0, held));
    }

    private static void tooLittleRoom() {
        for (int asked : new int[] {Integer.MIN_VALUE, -8, -1, 0, 1}) {
            room(asked, 1);
        }
        room(2, 2);
    }

    private static void tooMuchRoom() {
        room(7, 7);
        for (int asked : new int[] {8, 9, 60, Integer.MAX_VALUE}) {
            room(asked, 8);
        }
    }

    private static void roomOfEachSlot() {
        GateSteps yard = Due.yard(24, 1, 20);
        for (int i = 0; i < 20; i++) {
            int slot = 23 - i;
            Due.is("booking of slot " + slot, i + 1, () -> yard.book(slot, 0, 23 - slot));
            Due.is("slot " + slot, 1, () -> yard.count(100 + slot));
        }
    }

    private static void firstTime() {
        GateSteps yard = new GateSteps(1, 1);
        Due.is("NOW", 0, () -> yard.count(0));
        Due.is("0 can be told", 0, () -> yard.noShow(0));
        Due.argument("-1 can't", () -> yard.noShow(-1));
    }

    private static GateSteps untouched(boolean dangerous, boolean released) {
        GateSteps yard = new GateSteps(1, 1);
        Due.addBox(yard, 0, 1000, dangerous);
        if (released) {
            yard.check(0, 0, 1);
        }
        yard.book(0, 15, 0);
        return yard;
    }

    private static void firstRelease() {
        Due.is("not released", -5, () -> untouched(false, false).through(1, 0));
    }

    private static void firstVerdictsOfBoxes() {
        GateSteps yard = untouched(true, true);
        Due.is("no bar by SEAL, DAMAGE or PAPERS", 1, () -> yard.through(1, 0));
        Due.is("nor are they doubtful", 0, () -> yard.look(1, 4));
        GateSteps twenty = Yards.twentyBoxes("");
        twenty.check(0, 19, 1);
        twenty.book(0, 0, 19);
        Due.is("nor of the last box", 1, () -> twenty.through(1, 0));
    }

    private static void firstVerdictsOfTrucks() {
        GateSteps yard = Due.yard(2, 8, 16);
        for (int i = 0; i < 16; i++) {
            int truck = i;
            yard.book(i / 8, truck, i);
            Due.is("no bar by truck " + i, 1, () -> yard.through(truck + 1, 500));
        }
    }

    private static void firstTolerance() {
        Due.is("25 thousandths", 1, () -> Yards.oneIn(1000).weigh(0, 1025, 0));
        Due.is("not 26", -1, () -> Yards.oneIn(1000).weigh(0, 1026, 0));
    }

    private static void empty() {
        GateSteps yard = new GateSteps(24, 8);
        for (int i = 0; i <= 9; i++) {
            int what = i;
            Due.is("count of " + i, 0, () -> yard.count(what));
        }
        for (int i = 100; i < 124; i++) {
            int what = i;
            Due.is("count of " + i, 0, () -> yard.count(what));
        }
        for (int i = 0; i < 3; i++) {
            int lane = i;
            Due.is("first of lane " + i, -1, () -> yard.queue(lane, 0));
        }
        Due.is("letter", -1, yard::letter);
        Due.index("box 0", () -> yard.at(0, 0));
        Due.index("booking 1", () -> yard.look(1, 0));
    }
}

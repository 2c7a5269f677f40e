/** Yards that several tests begin with. */
final class Yards {
    private Yards() {
    }

    /**
     * Three slots with room for three, six boxes, tolerance 30, NOW 650, these signs in the row, and bookings:
     * 1 DONE, 2 IN lane 0, 3 IN lane 2, 4 OPEN in slot 1 without a bar, 5 ENDED; truck and box are one less.
     */
    static GateSteps busy(String signs) {
        GateSteps yard = Due.yard(3, 3, 6);
        yard.tolerance(30);
        yard.check(1, 2, 2);
        for (int i = 0; i < 5; i++) {
            yard.book(i < 2 ? 0 : 1, i, i);
        }
        yard.through(1, 500);
        yard.through(5, 500);
        yard.check(0, 4, 0);
        yard.weigh(0, 1000, 540);
        yard.through(2, 600);
        yard.through(3, 650);
        Due.type(yard, signs);
        return yard;
    }

    static GateSteps busy() {
        return busy("QRS");
    }

    /** As many boxes as there can be, and these signs in the row. */
    static GateSteps twentyBoxes(String signs) {
        GateSteps yard = new GateSteps(1, 1);
        for (int i = 0; i < 20; i++) {
            Due.addBox(yard, i, 1000, false);
        }
        Due.type(yard, signs);
        return yard;
    }

    /** As many bookings as there can be in two slots with room for eight: 57 to 60 OPEN in slot 0, the others ENDED. */
    static GateSteps sixtyBookings() {
        GateSteps yard = Due.yard(2, 8, 8);
        yard.noShow(720);
        for (int i = 1; i <= 60; i++) {
            yard.book(0, 0, (i - 1) % 8);
            if (i % 8 == 0) {
                yard.noShow(720);
            }
        }
        return yard;
    }

    /** One slot, one released box of so many kg, and its booking IN lane 0 since the time 0. */
    static GateSteps oneIn(int weight) {
        GateSteps yard = new GateSteps(1, 1);
        Due.addBox(yard, 0, weight, false);
        yard.check(0, 0, 1);
        yard.book(0, 0, 0);
        yard.through(1, 0);
        return yard;
    }

    /** One released box, and its OPEN booking in that one of 24 slots. */
    static GateSteps oneOpen(int slot) {
        GateSteps yard = Due.yard(24, 2, 2);
        yard.book(slot, 0, 0);
        return yard;
    }
}

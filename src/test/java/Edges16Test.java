/** Promise 16, count: each sentence that names an edge has a test of its own. */
public final class Edges16Test {
    public static void main(String[] args) {
        Due.sentence("what 0: NOW", Edges16Test::now);
        Due.sentence("1: bookings", Edges16Test::bookings);
        Due.sentence("2: boxes", Edges16Test::boxes);
        Due.sentence("3: signs in the row", Edges16Test::signs);
        Due.sentence("4 to 6: bookings in lanes 0 to 2", Edges16Test::lanes);
        Due.sentence("7: the longest TURN", Edges16Test::longestTurn);
        Due.sentence("8: all TURNS together", Edges16Test::allTurns);
        Due.sentence("9: bookings that are DONE", Edges16Test::done);
        Due.sentence("7 to 9 while nothing is DONE", Edges16Test::nothingDone);
        Due.sentence("from 100 on how many of slot what - 100 are not ENDED", Edges16Test::slots);
        Due.sentence("NONE for another what", Edges16Test::anotherWhat);
        Due.sentence("NONE for another .. slot", Edges16Test::anotherSlot);
        Due.end();
    }

    private static void now() {
        GateSteps yard = Yards.oneOpen(0);
        Due.is("at first", 0, () -> yard.count(0));
        yard.through(1, 3);
        Due.is("by through", 3, () -> yard.count(0));
        yard.weigh(0, 1000, 4);
        Due.is("by weigh", 4, () -> yard.count(0));
        yard.noShow(5);
        Due.is("by noShow", 5, () -> yard.count(0));
        yard.noShow(100000);
        Due.is("at last", 100000, () -> yard.count(0));
    }

    private static void bookings() {
        Due.is("none", 0, () -> Due.yard(1, 1, 1).count(1));
        Due.is("of every state", 5, () -> Yards.busy().count(1));
        Due.is("sixty", 60, () -> Yards.sixtyBookings().count(1));
    }

    private static void boxes() {
        Due.is("none", 0, () -> new GateSteps(1, 1).count(2));
        Due.is("twenty", 20, () -> Yards.twentyBoxes("").count(2));
        GateSteps gone = Yards.oneIn(1000);
        gone.weigh(0, 1000, 0);
        Due.is("one that is gone", 1, () -> gone.count(2));
        GateSteps refused = new GateSteps(1, 1);
        Due.type(refused, "AAAA000000L");
        refused.box(1, false);
        Due.is("one that was refused", 0, () -> refused.count(2));
    }

    private static void signs() {
        GateSteps yard = new GateSteps(1, 1);
        String number = Due.number(1);
        for (int i = 0; i < 11; i++) {
            int had = i;
            Due.is("signs", had, () -> yard.count(3));
            yard.sign(number.charAt(i));
        }
        Due.is("signs", 11, () -> yard.count(3));
        yard.box(1, false);
        Due.is("signs behind box", 0, () -> yard.count(3));
        yard.sign('A');
        yard.clear();
        Due.is("signs behind clear", 0, () -> yard.count(3));
    }

    private static void lanesAre(GateSteps yard, int zero, int one, int two) {
        Due.is("lane 0", zero, () -> yard.count(4));
        Due.is("lane 1", one, () -> yard.count(5));
        Due.is("lane 2", two, () -> yard.count(6));
    }

    private static void lanes() {
        GateSteps yard = Due.yard(1, 8, 8);
        yard.check(1, 7, 2);
        lanesAre(yard, 0, 0, 0);
        for (int i = 0; i < 8; i++) {
            yard.book(0, i, i);
        }
        lanesAre(yard, 0, 0, 0);
        for (int i = 1; i <= 8; i++) {
            yard.through(i, 0);
        }
        lanesAre(yard, 4, 3, 1);
        yard.weigh(1, 0, 0);
        lanesAre(yard, 4, 2, 2);
        yard.weigh(0, 1000, 0);
        lanesAre(yard, 3, 2, 2);
        yard.check(0, 7, 0);
        lanesAre(yard, 3, 2, 1);
        yard.weigh(2, 0, 0);
        lanesAre(yard, 3, 2, 0);
    }

    /** Five bookings that came through at 0, in lanes 0, 1, 0, 1, 0. */
    private static GateSteps five() {
        GateSteps yard = Due.yard(1, 8, 5);
        for (int i = 0; i < 5; i++) {
            yard.book(0, i, i);
            yard.through(i + 1, 0);
        }
        return yard;
    }

    private static void longestTurn() {
        GateSteps yard = Due.yard(2, 8, 3);
        for (int i = 0; i < 3; i++) {
            yard.book(1, i, i);
        }
        yard.through(1, 500);
        yard.weigh(0, 1000, 600);
        Due.is("the only one", 100, () -> yard.count(7));
        yard.through(2, 600);
        yard.weigh(0, 1000, 699);
        Due.is("a shorter one does not count", 100, () -> yard.count(7));
        yard.through(3, 700);
        yard.weigh(0, 0, 750);
        Due.is("nor does one that is IN", 100, () -> yard.count(7));
        yard.weigh(2, 0, 801);
        Due.is("a longer one does", 101, () -> yard.count(7));
        GateSteps all = Yards.oneIn(1000);
        all.weigh(0, 1000, 100000);
        Due.is("the longest of all", 100000, () -> all.count(7));
    }

    private static void allTurns() {
        GateSteps yard = five();
        int[] together = {10, 30, 60, 100};
        for (int i = 0; i < 4; i++) {
            yard.weigh(i % 2, 1000, 10 * (i + 1));
            Due.is("together", together[i], () -> yard.count(8));
        }
        yard.check(0, 4, 0);
        Due.is("without an ENDED one", 100, () -> yard.count(8));
        GateSteps most = Due.yard(2, 8, 16);
        for (int i = 0; i < 16; i++) {
            most.book(i / 8, i, i);
            most.through(i + 1, 480);
        }
        for (int i = 0; i < 16; i++) {
            most.weigh(i % 2, 1000, 100000);
        }
        Due.is("many long ones", 16 * 99520, () -> most.count(8));
    }

    private static void done() {
        GateSteps yard = five();
        for (int i = 0; i < 5; i++) {
            int before = i;
            Due.is("DONE", before, () -> yard.count(9));
            yard.weigh(i % 2, 1000, 1);
        }
        Due.is("all are DONE", 5, () -> yard.count(9));
        yard.noShow(100000);
        Due.is("and stay so", 5, () -> yard.count(9));
    }

    private static void nothingDone() {
        GateSteps yard = five();
        yard.weigh(0, 0, 50);
        yard.check(0, 1, 0);
        for (int i = 7; i <= 9; i++) {
            int what = i;
            Due.is("what " + i, 0, () -> yard.count(what));
        }
    }

    private static void slots() {
        GateSteps yard = Yards.busy();
        Due.is("DONE and IN", 2, () -> yard.count(100));
        Due.is("IN and OPEN, without the ENDED one", 2, () -> yard.count(101));
        Due.is("none", 0, () -> yard.count(102));
        yard.change(4, 2);
        Due.is("one went", 1, () -> yard.count(101));
        Due.is("there", 1, () -> yard.count(102));
        yard.noShow(100000);
        Due.is("and did not come", 0, () -> yard.count(102));
        GateSteps full = Due.yard(24, 8, 9);
        for (int i = 0; i < 9; i++) {
            full.book(23, 0, i);
        }
        Due.is("a full slot", 8, () -> full.count(123));
    }

    private static void anotherWhat() {
        GateSteps yard = Yards.busy();
        for (int what : new int[] {Integer.MIN_VALUE, -101, -100, -1, 10, 11, 50, 98, 99}) {
            Due.is("what " + what, -1, () -> yard.count(what));
        }
    }

    private static void anotherSlot() {
        for (int slots : new int[] {1, 3, 24}) {
            GateSteps yard = Due.yard(slots, 1, 1);
            Due.is("the last of " + slots, 0, () -> yard.count(100 + slots - 1));
            for (int what : new int[] {100 + slots, 124, 125, 200, 1000, Integer.MAX_VALUE}) {
                Due.is("what " + what + " of " + slots, -1, () -> yard.count(what));
            }
        }
    }
}

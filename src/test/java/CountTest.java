/** Promise 16: count. */
public final class CountTest {
    public static void main(String[] args) {
        everyCount();
        otherCounts();
        Due.end();
    }

    private static void everyCount() {
        GateSteps yard = Due.yard(4, 8, 10);
        yard.check(1, 6, 2);
        for (int i = 0; i < 9; i++) {
            yard.book(i < 7 ? 0 : 2, i, i);
        }
        for (int i = 1; i <= 7; i++) {
            yard.through(i, 10 * i);
        }
        yard.weigh(0, 1000, 100);
        yard.weigh(1, 1000, 150);
        yard.weigh(0, 1, 160);
        Due.type(yard, "ABC");
        // 1 and 2 are done, 5 stays in lane 0, 4 and 6 in lane 1, 7 and 3 in lane 2
        int[] due = {160, 9, 10, 3, 1, 2, 2, 130, 220, 2};
        for (int i = 0; i < due.length; i++) {
            int what = i;
            Due.is("count(" + i + ")", due[i], () -> yard.count(what));
        }
        Due.is("slot 0", 7, () -> yard.count(100));
        Due.is("slot 1", 0, () -> yard.count(101));
        Due.is("slot 2", 2, () -> yard.count(102));
        Due.is("slot 3", 0, () -> yard.count(103));
        yard.check(0, 4, 0);
        Due.is("lane 0 without the withdrawn one", 0, () -> yard.count(4));
        Due.is("slot 0 without it", 6, () -> yard.count(100));
        Due.is("bookings with it", 9, () -> yard.count(1));
        yard.noShow(3000);
        Due.is("slot 2 without those who did not come", 0, () -> yard.count(102));
        Due.is("NOW", 3000, () -> yard.count(0));
    }

    private static void otherCounts() {
        GateSteps yard = Due.yard(4, 8, 1);
        for (int what : new int[] {Integer.MIN_VALUE, -100, -1, 10, 11, 99, 104, 123, 124, 200, Integer.MAX_VALUE}) {
            Due.is("count(" + what + ")", -1, () -> yard.count(what));
        }
        GateSteps wide = new GateSteps(24, 8);
        Due.is("last slot", 0, () -> wide.count(123));
        Due.is("behind it", -1, () -> wide.count(124));
    }
}

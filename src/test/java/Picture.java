/** All that can be seen of a yard as one text, so that two yards can be compared. */
final class Picture {
    /** Yards with more bookings or boxes are not looked at in full: an object has 512 calls in all. */
    private static final int FEW = 6;

    private final GateSteps yard;
    private final StringBuilder text = new StringBuilder();

    private Picture(GateSteps yard) {
        this.yard = yard;
    }

    /** It uses the yard up: verdicts, weights and the tolerance are seen only by playing on. */
    static String of(GateSteps yard) {
        Picture picture = new Picture(yard);
        picture.lookAtAll();
        picture.playOn();
        picture.lookAtAll();
        return picture.text.toString();
    }

    private void add(String what, Due.Call call) {
        text.append(what).append('=').append(Due.answer(call)).append(' ');
    }

    private void lookAtAll() {
        for (int i = 0; i <= 9; i++) {
            int what = i;
            add("count" + i, () -> yard.count(what));
        }
        for (int i = 100; yard.count(i) != GateSteps.NONE; i++) {
            int what = i;
            add("count" + i, () -> yard.count(what));
        }
        add("letter", yard::letter);
        lookAtLanes();
        lookAtBookings();
        lookAtBoxes();
    }

    private void lookAtLanes() {
        for (int i = 0; i < 12; i++) {
            int lane = i / 4;
            int place = i % 4;
            add("queue" + lane + "," + place, () -> yard.queue(lane, place));
        }
    }

    private void lookAtBookings() {
        int bookings = yard.count(1);
        for (int i = 1; i <= bookings; i++) {
            int booking = i;
            for (int j = bookings > FEW ? 3 : 0; j <= (bookings > FEW ? 3 : 5); j++) {
                int what = j;
                add("look" + booking + "," + what, () -> yard.look(booking, what));
            }
        }
    }

    private void lookAtBoxes() {
        int boxes = yard.count(2);
        for (int i = 0; i < boxes && boxes <= FEW; i++) {
            int box = i;
            for (int j = 0; j < 10; j++) {
                int place = j;
                add("at" + box + "," + place, () -> yard.at(box, place));
            }
        }
    }

    private void playOn() {
        int now = yard.count(0);
        for (int i = 1; i <= Math.min(FEW, yard.count(1)); i++) {
            int booking = i;
            add("through" + booking, () -> yard.through(booking, now));
        }
        add("weigh0", () -> yard.weigh(0, 1030, now));
        add("weigh1", () -> yard.weigh(1, 1031, now));
        add("weigh2", () -> yard.weigh(2, 0, now));
    }
}

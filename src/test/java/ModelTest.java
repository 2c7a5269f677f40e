import java.util.Random;

/** All promises together: long runs of drawn calls, each answered by the class as by the model. */
public final class ModelTest {
    private static final int RUNS = 3000;
    /** The document promises nothing behind the 512th call of an object. */
    private static final int CALLS = 512;
    private static final int LOOKS = 100;
    private static final int[] ODD = {Integer.MIN_VALUE, -100, -1, 61, 200, 100001, 200001, Integer.MAX_VALUE};

    private final Random random;
    private final GateSteps yard;
    private final Model model;
    private final String run;
    /** One in so many arguments is odd: low in some runs for wrong calls, high in others for deep ones. */
    private final int oddness;
    private final int pace;
    private String typing = "";
    private int made = 0;
    private int calls = 0;

    private ModelTest(int seed) {
        random = new Random(seed);
        int slots = random.nextInt(27) - 1;
        int most = random.nextInt(11) - 1;
        if (random.nextInt(3) == 0) {
            slots = 1 + random.nextInt(3);
        }
        run = "run " + seed + " of (" + slots + ", " + most + "): ";
        oddness = 10 + random.nextInt(150);
        pace = 1 + random.nextInt(80);
        yard = new GateSteps(slots, most);
        model = new Model(slots, most);
    }

    public static void main(String[] args) {
        for (int seed = 0; seed < RUNS; seed++) {
            ModelTest test = new ModelTest(seed);
            while (test.calls < CALLS - LOOKS) {
                test.call();
            }
            while (test.calls < CALLS) {
                test.lookAtOne();
            }
        }
        Due.end();
    }

    private int upTo(int most) {
        return random.nextInt(oddness) == 0 ? ODD[random.nextInt(ODD.length)] : random.nextInt(most + 1);
    }

    private int time() {
        int step = random.nextInt(40) == 0 ? random.nextInt(700) - 20 : random.nextInt(pace);
        return random.nextInt(oddness) == 0 ? upTo(100000) % 20000 : model.now + step;
    }

    private int booking() {
        return upTo(model.bookings.size()) + (random.nextInt(20) == 0 ? 1 : 0);
    }

    private int box() {
        return upTo(Math.max(0, model.boxes.size() - 1));
    }

    private int slot() {
        int near = Math.min(model.slots - 1, model.now / 600 + random.nextInt(2));
        return random.nextInt(3) > 0 ? near : upTo(model.slots);
    }

    private void call() {
        int kind = random.nextInt(model.boxes.size() < 4 ? 40 : 100);
        if (kind < 30) {
            typeOne();
        } else if (kind < 36) {
            makeBox();
        } else if (kind < 37) {
            both("clear", yard::clear, model::clear);
            typing = "";
        } else if (kind < 38) {
            both("letter", yard::letter, model::letter);
        } else if (kind < 40) {
            int thousandths = upTo(1001);
            both("tolerance " + thousandths, () -> yard.tolerance(thousandths), () -> model.tolerance(thousandths));
        } else if (kind < 55) {
            judge();
        } else if (kind < 70) {
            int slot = slot();
            int truck = upTo(16);
            int box = box();
            both("book " + slot + " " + truck + " " + box, () -> yard.book(slot, truck, box), () -> model.book(slot, truck, box));
        } else if (kind < 84) {
            int booking = booking();
            int time = time();
            both("through " + booking + " " + time, () -> yard.through(booking, time), () -> model.through(booking, time));
        } else if (kind < 91) {
            weighOne();
        } else if (kind < 92) {
            int time = time();
            both("noShow " + time, () -> yard.noShow(time), () -> model.noShow(time));
        } else if (kind < 95) {
            int booking = booking();
            int slot = slot();
            both("change " + booking + " " + slot, () -> yard.change(booking, slot), () -> model.change(booking, slot));
        } else {
            lookAtOne();
        }
    }

    private void typeOne() {
        if (typing.isEmpty()) {
            typing = Due.number(random.nextInt(12) == 0 ? random.nextInt(made + 1) : made++);
        }
        int place = model.row.length();
        int wrong = "AZ09!a[@".charAt(random.nextInt(8));
        int c = place >= 11 || random.nextInt(30) == 0 ? wrong : typing.charAt(place);
        both("sign " + c, () -> yard.sign(c), () -> model.sign(c));
        if (place < 11) {
            // a run would hardly ever have a box if other calls came between all its signs
            while (calls < CALLS && model.row.length() < 11 && random.nextInt(25) > 0) {
                int next = typing.charAt(model.row.length());
                both("sign " + next, () -> yard.sign(next), () -> model.sign(next));
            }
        }
    }

    private void makeBox() {
        int weight = random.nextInt(2) == 0 ? upTo(100000) : 1000 + random.nextInt(100);
        boolean dangerous = random.nextBoolean();
        both("box " + weight, () -> yard.box(weight, dangerous), () -> model.box(weight, dangerous));
        if (model.row.isEmpty()) {
            typing = "";
        }
        int box = model.boxes.size() - 1;
        if (random.nextInt(5) > 0) {
            both("check 0 " + box, () -> yard.check(0, box, 1), () -> model.check(0, box, 1));
        }
    }

    private void judge() {
        int kind = upTo(6);
        int of = kind < 4 ? box() : upTo(16);
        int verdict = random.nextInt(3) > 0 ? 1 : upTo(3);
        both("check " + kind + " " + of + " " + verdict, () -> yard.check(kind, of, verdict), () -> model.check(kind, of, verdict));
    }

    private void weighOne() {
        int lane = upTo(2);
        int first = model.queue(lane, 0);
        int told = first > 0 ? model.boxes.get(model.bookings.get(first - 1).box).weight : 1000;
        int edge = told * model.tolerance / 1000;
        int off = random.nextInt(3) - 1 + (random.nextBoolean() ? edge : -edge);
        int kg = random.nextInt(3) == 0 ? upTo(200000) : told + off;
        int time = time();
        both("weigh " + lane + " " + kg + " " + time, () -> yard.weigh(lane, kg, time), () -> model.weigh(lane, kg, time));
    }

    private void lookAtOne() {
        int booking = booking();
        int what = upTo(6);
        both("look " + booking + " " + what, () -> yard.look(booking, what), () -> model.look(booking, what));
        int box = box();
        int place = upTo(10);
        both("at " + box + " " + place, () -> yard.at(box, place), () -> model.at(box, place));
        int lane = upTo(3);
        int i = upTo(16);
        both("queue " + lane + " " + i, () -> yard.queue(lane, i), () -> model.queue(lane, i));
        int counted = upTo(random.nextBoolean() ? 10 : 125);
        both("count " + counted, () -> yard.count(counted), () -> model.count(counted));
    }

    private void both(String call, Due.Call got, Due.Call want) {
        if (calls < CALLS) {
            calls++;
            Due.same(run + call, Due.answer(got), Due.answer(want));
        }
    }
}

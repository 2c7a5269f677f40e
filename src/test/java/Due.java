/** What the tests share: it compares answers with what is due, and builds yards for them. */
final class Due {
    interface Call {
        Object run();
    }

    interface Setup {
        GateSteps make();
    }

    interface Use {
        Object on(GateSteps yard);
    }

    /** A broken promise can make millions of drawn answers wrong: the first ones tell enough. */
    private static final int MOST_PRINTED = 50;

    private static int calls = 0;
    private static int wrong = 0;

    private Due() {
    }

    /** What a call answers: its value as text, or the very class of what it throws behind "throws.". */
    static String answer(Call call) {
        try {
            return String.valueOf(call.run());
        } catch (RuntimeException e) {
            return "throws." + e.getClass().getSimpleName();
        }
    }

    static void same(String what, String got, String want) {
        calls++;
        if (!got.equals(want)) {
            wrong++;
            if (wrong <= MOST_PRINTED) {
                System.out.println(what + " answered " + got + ", due is " + want);
            }
        }
    }

    static void is(String what, Object want, Call call) {
        same(what, answer(call), String.valueOf(want));
    }

    static void argument(String what, Call call) {
        same(what, answer(call), "throws.IllegalArgumentException");
    }

    static void state(String what, Call call) {
        same(what, answer(call), "throws.IllegalStateException");
    }

    static void index(String what, Call call) {
        same(what, answer(call), "throws.IndexOutOfBoundsException");
    }

    /** The call throws that exception, and its yard goes on like one that was never asked. */
    static void refused(String what, String exception, Setup setup, Use call) {
        GateSteps asked = setup.make();
        same(what, answer(() -> call.on(asked)), "throws." + exception);
        same(what + ": the yard behind it", Picture.of(asked), Picture.of(setup.make()));
    }

    /** The test of one sentence of the document: what is wrong in it is printed with the sentence's words. */
    static void sentence(String words, Runnable test) {
        int callsBefore = calls;
        int wrongBefore = wrong;
        try {
            test.run();
        } catch (RuntimeException e) {
            wrong++;
            System.out.println("a call that only prepares the test threw " + e);
        }
        if (calls == callsBefore) {
            wrong++;
            System.out.println("no answer was looked at");
        }
        if (wrong != wrongBefore) {
            System.out.println("BROKEN: " + words);
        }
    }

    static void end() {
        System.out.println(calls + " answers looked at, " + wrong + " are not as due");
        if (wrong != 0 || calls == 0) {
            System.exit(1);
        }
    }

    static void type(GateSteps yard, String signs) {
        for (int i = 0; i < signs.length(); i++) {
            yard.sign(signs.charAt(i));
        }
    }

    /** The number of box i of these tests, with its check letter reckoned from the document's own words. */
    static String number(int i) {
        String ten = String.format("QRST%06d", i);
        return ten + checkLetter(ten);
    }

    static char checkLetter(String ten) {
        String letters = "ABCDEFGHIJKLMNOPQRSTUVWXYZ";
        int sum = 0;
        for (int place = 1; place <= 10; place++) {
            char c = ten.charAt(place - 1);
            int worth = Character.isDigit(c) ? Character.getNumericValue(c) : letters.indexOf(c) + 1;
            sum += worth * place;
        }
        return letters.charAt(sum % 26);
    }

    /** A yard with so many boxes of 1000 kg that are released and not dangerous. */
    static GateSteps yard(int slots, int most, int boxes) {
        GateSteps yard = new GateSteps(slots, most);
        for (int i = 0; i < boxes; i++) {
            addBox(yard, i, 1000, false);
            yard.check(0, i, 1);
        }
        return yard;
    }

    static int addBox(GateSteps yard, int i, int weight, boolean dangerous) {
        type(yard, number(i));
        return yard.box(weight, dangerous);
    }
}

/**
 * Gates of a yard: box numbers with a check letter, bookings in slots, checks in their order,
 * lanes, weighing with a tolerance, what is withdrawn, who did not come, and how long it took.
 */
public final class GateSteps {

    public static final int NONE = -1;

    private static final int LATEST_TIME = 100000;
    private static final int SLOT_SECONDS = 600;
    private static final int GRACE = 120;

    private static final int MOST_SLOTS = 24;
    private static final int MOST_ROOM = 8;
    private static final int MOST_BOXES = 20;
    private static final int MOST_BOOKINGS = 60;
    private static final int TRUCKS = 16;
    private static final int LANES = 3;

    private static final int LETTERS_OF_NUMBER = 4;
    private static final int SIGNS_OF_NUMBER = 10;
    private static final int SIGNS_OF_ROW = 11;
    private static final int ALPHABET = 26;

    private static final int HEAVIEST_TOLD = 100000;
    private static final int HEAVIEST_WEIGHED = 200000;
    private static final int WHOLE = 1000;
    private static final int FIRST_TOLERANCE = 25;

    private static final int BAD = 0;
    private static final int GOOD = 1;
    private static final int DOUBTFUL = 2;

    private static final int RELEASE = 0;
    private static final int SEAL = 1;
    private static final int DAMAGE = 2;
    private static final int PAPERS = 3;
    private static final int RIGHTS = 4;
    private static final int DRIVER = 5;
    private static final int KINDS_OF_BOX = 4;
    private static final int KINDS_OF_TRUCK = 2;

    private static final int OPEN = 0;
    private static final int IN = 1;
    private static final int DONE = 2;
    private static final int ENDED = 3;

    private static final int NO_BAR = 0;
    private static final int SIDE_LANE = 2;
    private static final int COUNT_OF_SLOTS = 100;

    private final SignRow row;
    private final Boxes boxes;
    private final Trucks trucks;
    private final Slots slots;
    private final Bookings bookings;
    private final Lane[] lanes;
    private int now;
    private int allowed;
    private int longestTurn;
    private int allTurns;
    private int doneBookings;

    public GateSteps(int slots, int most) {
        this.row = new SignRow();
        this.boxes = new Boxes();
        this.trucks = new Trucks();
        this.slots = new Slots(held(slots, MOST_SLOTS), held(most, MOST_ROOM));
        this.bookings = new Bookings();
        this.lanes = new Lane[LANES];
        for (int i = 0; i < LANES; i++) {
            this.lanes[i] = new Lane();
        }
        this.allowed = FIRST_TOLERANCE;
    }

    public int sign(int c) throws IllegalArgumentException, IllegalStateException {
        if (!isLetter(c) && !isDigit(c)) {
            throw new IllegalArgumentException("not a sign");
        }
        if (row.size >= SIGNS_OF_ROW) {
            throw new IllegalStateException("the row is full");
        }
        if (!row.fits(c)) {
            throw new IllegalArgumentException("not a sign for this place");
        }
        row.add(c);
        return row.size;
    }

    public int clear() {
        int had = row.size;
        row.size = 0;
        return had;
    }

    public int letter() {
        return row.checkLetter();
    }

    public int box(int weight, boolean dangerous) throws IllegalArgumentException, IllegalStateException {
        if (row.size != SIGNS_OF_ROW) {
            throw new IllegalArgumentException("not eleven signs");
        }
        if (weight < 1 || weight > HEAVIEST_TOLD) {
            throw new IllegalArgumentException("no such weight");
        }
        if (boxes.size >= MOST_BOXES) {
            throw new IllegalStateException("no more boxes");
        }
        int made = NONE;
        if (row.endsWithCheckLetter() && !boxes.hasNumber(row.signs)) {
            made = boxes.add(row.signs, weight, dangerous);
        }
        row.size = 0;
        return made;
    }

    public int check(int kind, int of, int verdict) throws IndexOutOfBoundsException, IllegalArgumentException {
        if (kind < RELEASE || kind > DRIVER) {
            throw new IllegalArgumentException("no such kind");
        }
        if (kind < RIGHTS) {
            needBox(of);
        } else {
            needTruck(of);
        }
        if (!canBe(kind, verdict)) {
            throw new IllegalArgumentException("no such verdict");
        }
        if (kind >= RIGHTS) {
            trucks.judge(of, kind, verdict);
            return 0;
        }
        boxes.judge(of, kind, verdict);
        return kind == RELEASE && verdict == BAD ? withdraw(of) : 0;
    }

    public int book(int slot, int truck, int box) throws IndexOutOfBoundsException, IllegalStateException {
        needSlot(slot);
        needTruck(truck);
        needBox(box);
        if (bookings.size >= MOST_BOOKINGS) {
            throw new IllegalStateException("no more bookings");
        }
        if (bookings.holdsBox(box)) {
            return 0;
        }
        if (!slots.hasRoom(slot)) {
            return otherSlot(slot);
        }
        slots.taken[slot]++;
        return bookings.add(slot, truck, box);
    }

    public int through(int booking, int time) throws IndexOutOfBoundsException, IllegalArgumentException {
        needBooking(booking);
        needTime(time);
        now = time;
        int bar = firstBar(booking);
        if (bar != NO_BAR) {
            return -bar;
        }
        bookings.state[booking] = IN;
        bookings.came[booking] = now;
        joinLane(booking, laneFor(bookings.box[booking]));
        return 1;
    }

    public int weigh(int lane, int kg, int time) throws IndexOutOfBoundsException, IllegalArgumentException {
        if (!isLane(lane)) {
            throw new IndexOutOfBoundsException("no such lane");
        }
        needTime(time);
        if (kg < 0 || kg > HEAVIEST_WEIGHED) {
            throw new IllegalArgumentException("no such weight");
        }
        now = time;
        int first = lanes[lane].bookingAt(0);
        if (first == NONE) {
            return 0;
        }
        lanes[lane].remove(first);
        if (lane == SIDE_LANE || isWithinTolerance(bookings.box[first], kg)) {
            finish(first);
            return first;
        }
        joinLane(first, SIDE_LANE);
        return -first;
    }

    public boolean tolerance(int thousandths) {
        if (thousandths < 0 || thousandths > WHOLE) {
            return false;
        }
        allowed = thousandths;
        return true;
    }

    public int noShow(int time) throws IllegalArgumentException {
        needTime(time);
        now = time;
        int ended = 0;
        for (int booking = 1; booking <= bookings.size; booking++) {
            if (bookings.state[booking] == OPEN && isOver(bookings.slot[booking])) {
                end(booking);
                ended++;
            }
        }
        return ended;
    }

    public int change(int booking, int slot) throws IndexOutOfBoundsException {
        needBooking(booking);
        needSlot(slot);
        int from = bookings.slot[booking];
        if (bookings.state[booking] != OPEN || from == slot) {
            return 0;
        }
        if (!slots.hasRoom(slot)) {
            return otherSlot(slot);
        }
        slots.taken[from]--;
        slots.taken[slot]++;
        bookings.slot[booking] = slot;
        return 1;
    }

    public int queue(int lane, int i) {
        return isLane(lane) ? lanes[lane].bookingAt(i) : NONE;
    }

    public int look(int booking, int what) throws IndexOutOfBoundsException {
        needBooking(booking);
        switch (what) {
            case 0:
                return bookings.slot[booking];
            case 1:
                return bookings.truck[booking];
            case 2:
                return bookings.box[booking];
            case 3:
                return bookings.state[booking];
            case 4:
                return bookings.state[booking] == IN ? bookings.lane[booking] : NONE;
            case 5:
                return bookings.state[booking] == DONE ? bookings.turn[booking] : NONE;
            default:
                throw new IndexOutOfBoundsException("nothing such of a booking");
        }
    }

    public int at(int box, int place) throws IndexOutOfBoundsException {
        needBox(box);
        if (place < 0 || place >= SIGNS_OF_NUMBER) {
            throw new IndexOutOfBoundsException("no such place");
        }
        return boxes.signs[box * SIGNS_OF_NUMBER + place];
    }

    public int count(int what) {
        if (what >= COUNT_OF_SLOTS) {
            int slot = what - COUNT_OF_SLOTS;
            return slots.has(slot) ? slots.taken[slot] : NONE;
        }
        switch (what) {
            case 0:
                return now;
            case 1:
                return bookings.size;
            case 2:
                return boxes.size;
            case 3:
                return row.size;
            case 4:
            case 5:
            case 6:
                return lanes[what - 4].size;
            case 7:
                return longestTurn;
            case 8:
                return allTurns;
            case 9:
                return doneBookings;
            default:
                return NONE;
        }
    }

    private static int held(int value, int most) {
        return Math.max(1, Math.min(most, value));
    }

    private static boolean isLetter(int c) {
        return c >= 'A' && c <= 'Z';
    }

    private static boolean isDigit(int c) {
        return c >= '0' && c <= '9';
    }

    private static boolean isLane(int lane) {
        return lane >= 0 && lane < LANES;
    }

    private static boolean canBe(int kind, int verdict) {
        if (verdict == DOUBTFUL) {
            return kind == SEAL || kind == DAMAGE;
        }
        return verdict == BAD || verdict == GOOD;
    }

    private void needSlot(int slot) {
        if (!slots.has(slot)) {
            throw new IndexOutOfBoundsException("no such slot");
        }
    }

    private void needTruck(int truck) {
        if (truck < 0 || truck >= TRUCKS) {
            throw new IndexOutOfBoundsException("no such truck");
        }
    }

    private void needBox(int box) {
        if (box < 0 || box >= boxes.size) {
            throw new IndexOutOfBoundsException("no such box");
        }
    }

    private void needBooking(int booking) {
        if (booking < 1 || booking > bookings.size) {
            throw new IndexOutOfBoundsException("no such booking");
        }
    }

    private void needTime(int time) {
        if (time < now || time > LATEST_TIME) {
            throw new IllegalArgumentException("no such time");
        }
    }

    /** What book and change answer for a full slot: below 0, so that it is never a booking's number. */
    private int otherSlot(int slot) {
        return -1 - slots.nextWithRoom(slot);
    }

    private boolean isAhead(int slot) {
        return now < SLOT_SECONDS * slot - GRACE;
    }

    private boolean isOver(int slot) {
        return now > SLOT_SECONDS * slot + SLOT_SECONDS - 1 + GRACE;
    }

    private int firstBar(int booking) {
        if (bookings.state[booking] != OPEN) {
            return 1;
        }
        int slot = bookings.slot[booking];
        if (isAhead(slot) || isOver(slot)) {
            return 2;
        }
        int truck = bookings.truck[booking];
        if (trucks.verdictOf(truck, RIGHTS) == BAD) {
            return 3;
        }
        if (trucks.verdictOf(truck, DRIVER) == BAD) {
            return 4;
        }
        int bar = firstBarOfBox(bookings.box[booking]);
        if (bar != NO_BAR) {
            return bar;
        }
        // The booking itself is OPEN here, so one that is IN with its truck is another one.
        return bookings.holdsTruckIn(truck) ? 9 : NO_BAR;
    }

    private int firstBarOfBox(int box) {
        if (boxes.verdictOf(box, RELEASE) == BAD) {
            return 5;
        }
        if (boxes.verdictOf(box, SEAL) == BAD) {
            return 6;
        }
        if (boxes.verdictOf(box, DAMAGE) == BAD) {
            return 7;
        }
        if (boxes.dangerous[box] && boxes.verdictOf(box, PAPERS) == BAD) {
            return 8;
        }
        return NO_BAR;
    }

    private int laneFor(int box) {
        if (boxes.verdictOf(box, SEAL) == DOUBTFUL || boxes.verdictOf(box, DAMAGE) == DOUBTFUL) {
            return SIDE_LANE;
        }
        return lanes[1].size < lanes[0].size ? 1 : 0;
    }

    private void joinLane(int booking, int lane) {
        lanes[lane].add(booking);
        bookings.lane[booking] = lane;
    }

    private boolean isWithinTolerance(int box, int kg) {
        int told = boxes.weight[box];
        return Math.abs(kg - told) * WHOLE <= told * allowed;
    }

    private void finish(int booking) {
        int turn = now - bookings.came[booking];
        bookings.state[booking] = DONE;
        bookings.turn[booking] = turn;
        longestTurn = Math.max(longestTurn, turn);
        allTurns += turn;
        doneBookings++;
    }

    private void end(int booking) {
        bookings.state[booking] = ENDED;
        slots.taken[bookings.slot[booking]]--;
    }

    private int withdraw(int box) {
        int booking = bookings.inWithBox(box);
        if (booking == NONE) {
            return 0;
        }
        lanes[bookings.lane[booking]].remove(booking);
        end(booking);
        return 1;
    }

    /** The signs that are typed: letters, digits, the check letter. */
    private static final class SignRow {
        final int[] signs = new int[SIGNS_OF_ROW];
        int size;

        boolean fits(int c) {
            boolean wantsDigit = size >= LETTERS_OF_NUMBER && size < SIGNS_OF_NUMBER;
            return wantsDigit ? isDigit(c) : isLetter(c);
        }

        void add(int c) {
            if (size < SIGNS_OF_ROW) {
                signs[size] = c;
                size++;
            }
        }

        int checkLetter() {
            if (size < SIGNS_OF_NUMBER) {
                return NONE;
            }
            int sum = 0;
            for (int i = 0; i < SIGNS_OF_NUMBER; i++) {
                sum += worth(signs[i]) * (i + 1);
            }
            return 'A' + sum % ALPHABET;
        }

        boolean endsWithCheckLetter() {
            return size == SIGNS_OF_ROW && signs[SIGNS_OF_ROW - 1] == checkLetter();
        }

        private static int worth(int c) {
            return isLetter(c) ? c - 'A' + 1 : c - '0';
        }
    }

    /** All boxes in flat rows, so that a new object costs few arrays. */
    private static final class Boxes {
        final int[] signs = new int[MOST_BOXES * SIGNS_OF_NUMBER];
        final int[] weight = new int[MOST_BOXES];
        final boolean[] dangerous = new boolean[MOST_BOXES];
        final int[] verdicts = new int[MOST_BOXES * KINDS_OF_BOX];
        int size;

        int add(int[] number, int told, boolean isDangerous) {
            if (size >= MOST_BOXES) {
                return NONE;
            }
            int box = size;
            size++;
            for (int i = 0; i < SIGNS_OF_NUMBER && i < number.length; i++) {
                signs[box * SIGNS_OF_NUMBER + i] = number[i];
            }
            weight[box] = told;
            dangerous[box] = isDangerous;
            judge(box, RELEASE, BAD);
            judge(box, SEAL, GOOD);
            judge(box, DAMAGE, GOOD);
            judge(box, PAPERS, GOOD);
            return box;
        }

        boolean hasNumber(int[] number) {
            for (int box = 0; box < size; box++) {
                if (isNumberOf(box, number)) {
                    return true;
                }
            }
            return false;
        }

        private boolean isNumberOf(int box, int[] number) {
            for (int i = 0; i < SIGNS_OF_NUMBER && i < number.length; i++) {
                if (signs[box * SIGNS_OF_NUMBER + i] != number[i]) {
                    return false;
                }
            }
            return true;
        }

        void judge(int box, int kind, int verdict) {
            verdicts[box * KINDS_OF_BOX + kind] = verdict;
        }

        int verdictOf(int box, int kind) {
            return verdicts[box * KINDS_OF_BOX + kind];
        }
    }

    /** The verdicts of the trucks, whose kinds begin with RIGHTS. */
    private static final class Trucks {
        final int[] verdicts = new int[TRUCKS * KINDS_OF_TRUCK];

        Trucks() {
            for (int i = 0; i < verdicts.length; i++) {
                verdicts[i] = GOOD;
            }
        }

        void judge(int truck, int kind, int verdict) {
            verdicts[truck * KINDS_OF_TRUCK + kind - RIGHTS] = verdict;
        }

        int verdictOf(int truck, int kind) {
            return verdicts[truck * KINDS_OF_TRUCK + kind - RIGHTS];
        }
    }

    /** How many bookings that are not ENDED each slot has. */
    private static final class Slots {
        final int[] taken = new int[MOST_SLOTS];
        final int size;
        final int room;

        Slots(int size, int room) {
            this.size = size;
            this.room = room;
        }

        boolean has(int slot) {
            return slot >= 0 && slot < size;
        }

        boolean hasRoom(int slot) {
            return taken[slot] < room;
        }

        int nextWithRoom(int slot) {
            for (int next = slot + 1; next < size; next++) {
                if (hasRoom(next)) {
                    return next;
                }
            }
            return size;
        }
    }

    /** All bookings in flat rows; their numbers begin with 1, so place 0 is never used. */
    private static final class Bookings {
        final int[] slot = new int[MOST_BOOKINGS + 1];
        final int[] truck = new int[MOST_BOOKINGS + 1];
        final int[] box = new int[MOST_BOOKINGS + 1];
        final int[] state = new int[MOST_BOOKINGS + 1];
        final int[] lane = new int[MOST_BOOKINGS + 1];
        final int[] came = new int[MOST_BOOKINGS + 1];
        final int[] turn = new int[MOST_BOOKINGS + 1];
        int size;

        int add(int ofSlot, int ofTruck, int ofBox) {
            if (size >= MOST_BOOKINGS) {
                return NONE;
            }
            size++;
            slot[size] = ofSlot;
            truck[size] = ofTruck;
            box[size] = ofBox;
            state[size] = OPEN;
            return size;
        }

        boolean holdsBox(int wanted) {
            for (int booking = 1; booking <= size; booking++) {
                if (box[booking] == wanted && state[booking] != ENDED) {
                    return true;
                }
            }
            return false;
        }

        boolean holdsTruckIn(int wanted) {
            for (int booking = 1; booking <= size; booking++) {
                if (truck[booking] == wanted && state[booking] == IN) {
                    return true;
                }
            }
            return false;
        }

        int inWithBox(int wanted) {
            for (int booking = 1; booking <= size; booking++) {
                if (box[booking] == wanted && state[booking] == IN) {
                    return booking;
                }
            }
            return NONE;
        }
    }

    /** Bookings in the order of their coming; a truck is IN with one booking at most, so TRUCKS are room enough. */
    private static final class Lane {
        final int[] waiting = new int[TRUCKS];
        int size;

        void add(int booking) {
            if (size < TRUCKS) {
                waiting[size] = booking;
                size++;
            }
        }

        int bookingAt(int i) {
            return i >= 0 && i < size ? waiting[i] : NONE;
        }

        void remove(int booking) {
            int kept = 0;
            for (int i = 0; i < size; i++) {
                if (waiting[i] != booking) {
                    waiting[kept] = waiting[i];
                    kept++;
                }
            }
            size = kept;
        }
    }
}

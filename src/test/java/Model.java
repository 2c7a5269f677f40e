import java.util.ArrayList;
import java.util.List;

/** The document told once more, in the plainest way: everything is looked for anew in lists of objects. */
final class Model {
    static final class Box {
        String number;
        int weight;
        boolean dangerous;
        int[] verdict = {0, 1, 1, 1};
    }

    static final class Booking {
        int number;
        int slot;
        int truck;
        int box;
        String state = "OPEN";
        int came;
        int turn;
    }

    final int slots;
    final int most;
    final List<Box> boxes = new ArrayList<>();
    final List<Booking> bookings = new ArrayList<>();
    final List<List<Booking>> lanes = List.of(new ArrayList<>(), new ArrayList<>(), new ArrayList<>());
    final int[][] trucks = new int[16][2];
    String row = "";
    int now = 0;
    int tolerance = 25;

    Model(int slots, int most) {
        this.slots = slots < 1 ? 1 : slots > 24 ? 24 : slots;
        this.most = most < 1 ? 1 : most > 8 ? 8 : most;
        for (int[] truck : trucks) {
            truck[0] = 1;
            truck[1] = 1;
        }
    }

    int sign(int c) {
        boolean letter = 'A' <= c && c <= 'Z';
        boolean digit = '0' <= c && c <= '9';
        argument(letter || digit);
        state(row.length() < 11);
        argument("LLLLDDDDDDL".charAt(row.length()) == (letter ? 'L' : 'D'));
        row += (char) c;
        return row.length();
    }

    int clear() {
        int had = row.length();
        row = "";
        return had;
    }

    int letter() {
        return row.length() < 10 ? -1 : Due.checkLetter(row.substring(0, 10));
    }

    int box(int weight, boolean dangerous) {
        argument(row.length() == 11 && weight >= 1 && weight <= 100000);
        state(boxes.size() < 20);
        boolean good = row.charAt(10) == letter();
        Box made = new Box();
        made.number = row.substring(0, 10);
        made.weight = weight;
        made.dangerous = dangerous;
        row = "";
        if (!good || boxes.stream().anyMatch(b -> b.number.equals(made.number))) {
            return -1;
        }
        boxes.add(made);
        return boxes.size() - 1;
    }

    int check(int kind, int of, int verdict) {
        argument(kind >= 0 && kind <= 5);
        index(of >= 0 && of < (kind < 4 ? boxes.size() : 16));
        argument(verdict == 0 || verdict == 1 || verdict == 2 && (kind == 1 || kind == 2));
        if (kind >= 4) {
            trucks[of][kind - 4] = verdict;
            return 0;
        }
        boxes.get(of).verdict[kind] = verdict;
        int ended = 0;
        for (Booking b : bookings) {
            if (kind == 0 && verdict == 0 && b.box == of && b.state.equals("IN")) {
                lanes.forEach(lane -> lane.remove(b));
                b.state = "ENDED";
                ended++;
            }
        }
        return ended;
    }

    int book(int slot, int truck, int box) {
        index(slot >= 0 && slot < slots && truck >= 0 && truck < 16 && box >= 0 && box < boxes.size());
        state(bookings.size() < 60);
        if (bookings.stream().anyMatch(b -> b.box == box && !b.state.equals("ENDED"))) {
            return 0;
        }
        if (taken(slot) >= most) {
            return full(slot);
        }
        Booking made = new Booking();
        made.slot = slot;
        made.truck = truck;
        made.box = box;
        bookings.add(made);
        made.number = bookings.size();
        return made.number;
    }

    int through(int booking, int time) {
        Booking b = booking(booking);
        tell(time);
        Box box = boxes.get(b.box);
        boolean[] bars = {
            !b.state.equals("OPEN"),
            600 * b.slot - time > 120 || time - (600 * b.slot + 599) > 120,
            trucks[b.truck][0] == 0,
            trucks[b.truck][1] == 0,
            box.verdict[0] == 0,
            box.verdict[1] == 0,
            box.verdict[2] == 0,
            box.dangerous && box.verdict[3] == 0,
            lanes.stream().anyMatch(lane -> lane.stream().anyMatch(o -> o != b && o.truck == b.truck)),
        };
        for (int i = 0; i < bars.length; i++) {
            if (bars[i]) {
                return -1 - i;
            }
        }
        b.state = "IN";
        b.came = time;
        int lane = lanes.get(0).size() <= lanes.get(1).size() ? 0 : 1;
        lanes.get(box.verdict[1] == 2 || box.verdict[2] == 2 ? 2 : lane).add(b);
        return 1;
    }

    int weigh(int lane, int kg, int time) {
        index(lane >= 0 && lane <= 2);
        argument(kg >= 0 && kg <= 200000);
        tell(time);
        if (lanes.get(lane).isEmpty()) {
            return 0;
        }
        Booking b = lanes.get(lane).remove(0);
        long weight = boxes.get(b.box).weight;
        if (lane < 2 && Math.abs(kg - weight) * 1000 > weight * tolerance) {
            lanes.get(2).add(b);
            return -b.number;
        }
        b.state = "DONE";
        b.turn = time - b.came;
        return b.number;
    }

    boolean tolerance(int thousandths) {
        boolean can = thousandths >= 0 && thousandths <= 1000;
        tolerance = can ? thousandths : tolerance;
        return can;
    }

    int noShow(int time) {
        tell(time);
        int ended = 0;
        for (Booking b : bookings) {
            if (b.state.equals("OPEN") && now - (600 * b.slot + 599) > 120) {
                b.state = "ENDED";
                ended++;
            }
        }
        return ended;
    }

    int change(int booking, int slot) {
        Booking b = booking(booking);
        index(slot >= 0 && slot < slots);
        if (!b.state.equals("OPEN") || b.slot == slot) {
            return 0;
        }
        if (taken(slot) >= most) {
            return full(slot);
        }
        b.slot = slot;
        return 1;
    }

    int queue(int lane, int i) {
        boolean there = lane >= 0 && lane <= 2 && i >= 0 && i < lanes.get(lane).size();
        return there ? lanes.get(lane).get(i).number : -1;
    }

    int look(int booking, int what) {
        Booking b = booking(booking);
        index(what >= 0 && what <= 5);
        int lane = -1;
        for (int i = 0; i < 3; i++) {
            lane = lanes.get(i).contains(b) ? i : lane;
        }
        int state = List.of("OPEN", "IN", "DONE", "ENDED").indexOf(b.state);
        return new int[] {b.slot, b.truck, b.box, state, lane, state == 2 ? b.turn : -1}[what];
    }

    int at(int box, int place) {
        index(box >= 0 && box < boxes.size() && place >= 0 && place <= 9);
        return boxes.get(box).number.charAt(place);
    }

    int count(int what) {
        if (what >= 100) {
            return what - 100 < slots ? taken(what - 100) : -1;
        }
        if (what < 0 || what > 9) {
            return -1;
        }
        int longest = 0;
        int together = 0;
        int done = 0;
        for (Booking b : bookings) {
            if (b.state.equals("DONE")) {
                longest = Math.max(longest, b.turn);
                together += b.turn;
                done++;
            }
        }
        return new int[] {now, bookings.size(), boxes.size(), row.length(), lanes.get(0).size(),
            lanes.get(1).size(), lanes.get(2).size(), longest, together, done}[what];
    }

    private int taken(int slot) {
        return (int) bookings.stream().filter(b -> b.slot == slot && !b.state.equals("ENDED")).count();
    }

    private int full(int slot) {
        int next = slot + 1;
        while (next < slots && taken(next) >= most) {
            next++;
        }
        return -1 - next;
    }

    private Booking booking(int number) {
        index(number >= 1 && number <= bookings.size());
        return bookings.get(number - 1);
    }

    private void tell(int time) {
        argument(time >= now && time <= 100000);
        now = time;
    }

    private static void argument(boolean can) {
        if (!can) {
            throw new IllegalArgumentException();
        }
    }

    private static void index(boolean can) {
        if (!can) {
            throw new IndexOutOfBoundsException();
        }
    }

    private static void state(boolean can) {
        if (!can) {
            throw new IllegalStateException();
        }
    }
}

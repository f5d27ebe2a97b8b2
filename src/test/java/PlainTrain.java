import java.util.ArrayDeque;
import java.util.ArrayList;
import java.util.Deque;
import java.util.List;
import java.util.regex.Matcher;
import java.util.regex.Pattern;

/**
 * The document told once more, by other means: objects for wagons and doors, copies for the history,
 * patterns for the text. RandomRunsTest compares its answers with those of BallastTrain.
 */
final class PlainTrain {
    static final int BAD = -1002, STATE = -1003, FULL = -1004, NONE = -1001;

    private static final String ORDER =
            " *@ *([0-9]|[0-3][0-9]) *(?:(o) *([0-5]) *([lmr]) *([1-3])|(c) *([0-5]) *([lmr])|(v) *([0-3])) *; *";
    private static final Pattern ONE = Pattern.compile(ORDER);
    private static final Pattern ALL = Pattern.compile("(?:" + ORDER + ")* *");

    private static final class Door {
        int level;
        boolean closing;
        int rest;
    }

    private static final class Wagon {
        int load;
        int left;
        final Door[] doors = {new Door(), new Door(), new Door()};
    }

    private static final class World {
        int[] settings = {4, 12, 1, 100, 8};
        int[][] height = new int[3][40];
        List<Wagon> wagons = new ArrayList<>();
        List<int[]> orders = new ArrayList<>();
        int place = -1;
        int speed;
        int wish;
        int time;
        int jams;
        int loaded;
        int lost;
        int taken;

        World copy() {
            World copy = new World();
            copy.settings = settings.clone();
            for (int strip = 0; strip < 3; strip++) {
                copy.height[strip] = height[strip].clone();
            }
            for (Wagon wagon : wagons) {
                Wagon same = new Wagon();
                same.load = wagon.load;
                same.left = wagon.left;
                for (int d = 0; d < 3; d++) {
                    same.doors[d].level = wagon.doors[d].level;
                    same.doors[d].closing = wagon.doors[d].closing;
                    same.doors[d].rest = wagon.doors[d].rest;
                }
                copy.wagons.add(same);
            }
            copy.orders.addAll(orders);
            copy.place = place;
            copy.speed = speed;
            copy.wish = wish;
            copy.time = time;
            copy.jams = jams;
            copy.loaded = loaded;
            copy.lost = lost;
            copy.taken = taken;
            return copy;
        }

        int inWagons() {
            return wagons.stream().mapToInt(w -> w.load).sum();
        }

        int onTrack() {
            int sum = 0;
            for (int[] strip : height) {
                for (int h : strip) {
                    sum += h;
                }
            }
            return sum;
        }

        int missing() {
            int sum = 0;
            for (int[] strip : height) {
                for (int h : strip) {
                    sum += h < settings[4] ? settings[4] - h : 0;
                }
            }
            return sum;
        }

        void turn(Door door, int level) {
            if (level > 0) {
                door.level = level;
                door.closing = false;
            } else if (door.level != 0) {
                door.closing = true;
                door.rest = settings[2];
            }
        }

        boolean due(int[] order) {
            if (order[1] == 2) {
                return place >= order[0];
            }
            return order[2] < wagons.size() && place - 4 * order[2] >= order[0];
        }

        void second() {
            speed += Integer.signum(wish - speed);
            place = place + speed > 99 ? 99 : place + speed;
            List<int[]> due = new ArrayList<>(orders);
            due.removeIf(order -> !due(order));
            orders.removeAll(due);
            for (int[] order : due) {
                switch (order[1]) {
                    case 0 -> turn(wagons.get(order[2]).doors[order[3]], order[4]);
                    case 1 -> turn(wagons.get(order[2]).doors[order[3]], 0);
                    default -> wish = order[4];
                }
            }
            for (int w = 0; w < wagons.size(); w++) {
                int cell = place - 4 * w;
                for (int d = 0; d < 3; d++) {
                    for (int unit = 0; unit < wagons.get(w).doors[d].level && wagons.get(w).load > 0; unit++) {
                        wagons.get(w).load--;
                        wagons.get(w).left++;
                        if (cell < 0 || cell > 39) {
                            lost++;
                        } else {
                            height[d][cell]++;
                        }
                    }
                }
            }
            for (int cell = 0; cell <= 38; cell++) {
                for (int s = 0; s < 3; s++) {
                    int here = height[s][cell];
                    int next = height[s][cell + 1];
                    int slides = here > next + settings[0] ? 1 : here < next - settings[0] ? -1 : 0;
                    height[s][cell] = here - slides;
                    height[s][cell + 1] = next + slides;
                }
            }
            for (int s = 0; s < 3; s += 2) {
                for (int cell = 0; cell < 40; cell++) {
                    while (height[s][cell] > settings[1]) {
                        height[s][cell]--;
                        lost++;
                    }
                }
            }
            for (Wagon wagon : wagons) {
                for (Door door : wagon.doors) {
                    if (door.closing && door.rest > 0) {
                        door.rest--;
                    } else if (door.closing) {
                        door.closing = false;
                        door.level = 0;
                        if (wagon.load > settings[3]) {
                            door.level = 1;
                            jams++;
                        }
                    }
                }
            }
            time++;
        }
    }

    private World world = new World();
    private String text = "";
    private final Deque<World> history = new ArrayDeque<>();

    PlainTrain() {
        for (int w = 0; w < 3; w++) {
            world.wagons.add(new Wagon());
        }
    }

    private void change() {
        history.addLast(world.copy());
        if (history.size() > 6) {
            history.removeFirst();
        }
    }

    private static boolean in(int value, int least, int most) {
        return least <= value && value <= most;
    }

    int type(int letter) {
        if (!in(letter, 0, 127)) {
            return BAD;
        }
        if (text.length() == 60) {
            return FULL;
        }
        text += (char) letter;
        return text.length();
    }

    int clearText() {
        int length = text.length();
        text = "";
        return length;
    }

    /** A byte can stand at its place if the text up to it can be made a text of orders. */
    int fault() {
        for (int end = 1; end <= text.length(); end++) {
            String start = text.substring(0, end);
            if (start.matches("(?s).*@ *[4-9][0-9]")) {
                return end - 2;
            }
            Matcher matcher = ALL.matcher(start);
            if (!matcher.matches() && !matcher.hitEnd()) {
                return end - 1;
            }
        }
        return ALL.matcher(text).matches() ? NONE : text.length();
    }

    int set(int what, int value) {
        int[][] ranges = {{1, 20}, {1, 60}, {0, 9}, {0, 200}, {0, 60}};
        if (!in(what, 0, 4) || !in(value, ranges[what][0], ranges[what][1])) {
            return BAD;
        }
        change();
        int before = world.settings[what];
        world.settings[what] = value;
        return before;
    }

    int setTrain(int wagons) {
        if (!in(wagons, 1, 6)) {
            return BAD;
        }
        change();
        int units = world.inWagons();
        world.taken += units;
        world.wagons.clear();
        for (int w = 0; w < wagons; w++) {
            world.wagons.add(new Wagon());
        }
        world.place = -1;
        world.speed = 0;
        world.wish = 0;
        return units;
    }

    int load(int wagon, int units) {
        if (!in(wagon, 0, world.wagons.size() - 1) || !in(units, 1, 200)) {
            return BAD;
        }
        if (world.speed != 0) {
            return STATE;
        }
        if (world.wagons.get(wagon).load + units > 200) {
            return FULL;
        }
        change();
        world.loaded += units;
        world.wagons.get(wagon).load += units;
        return world.wagons.get(wagon).load;
    }

    int door(int wagon, int door, int level) {
        if (!in(wagon, 0, world.wagons.size() - 1) || !in(door, 0, 2) || !in(level, 0, 3)) {
            return BAD;
        }
        change();
        Door it = world.wagons.get(wagon).doors[door];
        int before = it.level;
        world.turn(it, level);
        return before;
    }

    int wish(int speed) {
        if (!in(speed, 0, 3)) {
            return BAD;
        }
        change();
        int before = world.wish;
        world.wish = speed;
        return before;
    }

    int order() {
        if (fault() != NONE) {
            return STATE;
        }
        List<int[]> read = new ArrayList<>();
        Matcher matcher = ONE.matcher(text);
        while (matcher.find()) {
            int cell = Integer.parseInt(matcher.group(1));
            if (matcher.group(2) != null) {
                read.add(new int[] {cell, 0, number(matcher.group(3)), "lmr".indexOf(matcher.group(4)),
                    number(matcher.group(5))});
            } else if (matcher.group(6) != null) {
                read.add(new int[] {cell, 1, number(matcher.group(7)), "lmr".indexOf(matcher.group(8)), NONE});
            } else {
                read.add(new int[] {cell, 2, NONE, NONE, number(matcher.group(10))});
            }
        }
        if (world.orders.size() + read.size() > 10) {
            return FULL;
        }
        change();
        world.orders.addAll(read);
        return read.size();
    }

    private static int number(String digit) {
        return Integer.parseInt(digit);
    }

    int cancel(int i) {
        if (!in(i, 0, world.orders.size() - 1)) {
            return BAD;
        }
        change();
        world.orders.remove(i);
        return world.orders.size();
    }

    int pass(int seconds) {
        if (!in(seconds, 1, 200)) {
            return BAD;
        }
        if (world.time + seconds > 9999) {
            return FULL;
        }
        change();
        for (int s = 0; s < seconds; s++) {
            world.second();
        }
        return world.place;
    }

    int scrape(int cell, int strip, int most) {
        if (!in(cell, 0, 39) || !in(strip, 0, 2) || !in(most, 1, 60)) {
            return BAD;
        }
        change();
        int units = 0;
        while (units < most && world.height[strip][cell] > 0) {
            world.height[strip][cell]--;
            world.taken++;
            units++;
        }
        return units;
    }

    int undo() {
        if (history.isEmpty()) {
            return STATE;
        }
        world = history.removeLast();
        return history.size();
    }

    int wagon(int wagon, int what) {
        if (!in(wagon, 0, world.wagons.size() - 1) || !in(what, 0, 4)) {
            return BAD;
        }
        Wagon it = world.wagons.get(wagon);
        int levels = 0;
        int closing = 0;
        for (Door door : it.doors) {
            levels += door.level;
            closing += door.closing ? 1 : 0;
        }
        return new int[] {it.load, world.place - 4 * wagon, levels, closing, it.left}[what];
    }

    int doorOf(int wagon, int door, int what) {
        if (!in(wagon, 0, world.wagons.size() - 1) || !in(door, 0, 2) || !in(what, 0, 1)) {
            return BAD;
        }
        Door it = world.wagons.get(wagon).doors[door];
        return what == 0 ? it.level : it.closing ? it.rest : NONE;
    }

    int height(int cell, int strip) {
        return in(cell, 0, 39) && in(strip, 0, 2) ? world.height[strip][cell] : BAD;
    }

    int profile(int strip, int what) {
        if (!in(strip, 0, 2) || !in(what, 0, 5)) {
            return BAD;
        }
        int[] row = world.height[strip];
        int sum = 0;
        int greatest = -1;
        int first = -1;
        int enough = 0;
        int longest = 0;
        int steepest = 0;
        for (int cell = 0; cell < 40; cell++) {
            sum += row[cell];
            if (row[cell] > greatest) {
                greatest = row[cell];
                first = cell;
            }
            enough += row[cell] >= world.settings[4] ? 1 : 0;
            int end = cell;
            while (end < 40 && row[end] >= world.settings[4]) {
                end++;
            }
            longest = Math.max(longest, end - cell);
            steepest = cell == 0 ? 0 : Math.max(steepest, Math.abs(row[cell] - row[cell - 1]));
        }
        return new int[] {sum, greatest, first, enough, longest, steepest}[what];
    }

    int lacking(int i) {
        if (i < -1) {
            return BAD;
        }
        if (i == -1) {
            return world.missing();
        }
        List<Integer> cells = new ArrayList<>();
        for (int cell = 0; cell < 40; cell++) {
            int aim = world.settings[4];
            if (world.height[0][cell] < aim || world.height[1][cell] < aim || world.height[2][cell] < aim) {
                cells.add(cell);
            }
        }
        return i < cells.size() ? cells.get(i) : NONE;
    }

    int ordered(int i, int what) {
        if (i < 0 || !in(what, 0, 4)) {
            return BAD;
        }
        return i < world.orders.size() ? world.orders.get(i)[what] : NONE;
    }

    int foretell(int seconds, int what) {
        if (!in(seconds, 1, 200) || !in(what, 0, 6)) {
            return BAD;
        }
        World then = world.copy();
        for (int s = 0; s < seconds; s++) {
            then.second();
        }
        return new int[] {then.place, then.inWagons(), then.onTrack(), then.lost, then.jams, then.missing(),
            then.orders.size()}[what];
    }

    int emptyAfter() {
        World then = world.copy();
        for (int s = 0; s <= 400; s++) {
            if (then.inWagons() == 0) {
                return s;
            }
            then.second();
        }
        return NONE;
    }

    int count(int what) {
        if (!in(what, 0, 18)) {
            return BAD;
        }
        int[] s = world.settings;
        return new int[] {world.wagons.size(), world.place, world.speed, world.wish, world.time,
            world.orders.size(), world.jams, world.loaded, world.inWagons(), world.onTrack(), world.lost,
            world.taken, history.size(), text.length(), s[0], s[1], s[2], s[3], s[4]}[what];
    }

    long digest() {
        List<Integer> numbers = new ArrayList<>();
        for (int what = 0; what <= 18; what++) {
            numbers.add(count(what));
        }
        for (int w = 0; w < world.wagons.size(); w++) {
            for (int what = 0; what <= 4; what++) {
                numbers.add(wagon(w, what));
            }
            for (int d = 0; d <= 2; d++) {
                numbers.add(doorOf(w, d, 0));
                numbers.add(doorOf(w, d, 1));
            }
        }
        for (int cell = 0; cell <= 39; cell++) {
            for (int strip = 0; strip <= 2; strip++) {
                numbers.add(height(cell, strip));
            }
        }
        for (int strip = 0; strip <= 2; strip++) {
            for (int what = 0; what <= 5; what++) {
                numbers.add(profile(strip, what));
            }
        }
        numbers.add(lacking(-1));
        for (int[] order : world.orders) {
            for (int part : order) {
                numbers.add(part);
            }
        }
        for (int what = 0; what <= 6; what++) {
            numbers.add(foretell(20, what));
        }
        numbers.add(emptyAfter());
        text.chars().forEach(numbers::add);
        long h = 149;
        for (int v : numbers) {
            h = 31 * h + v;
        }
        return h;
    }

    String text() {
        return text;
    }
}

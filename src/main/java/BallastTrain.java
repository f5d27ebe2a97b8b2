import java.util.ArrayList;
import java.util.Arrays;

/** A train that unloads ballast on a track; shared/DOC.md tells its promises. */
public final class BallastTrain {
    public static final int BAD = -1002, STATE = -1003, FULL = -1004;
    public static final int NONE = -1001;

    private static final int CELLS = 40, STRIPS = 3, MIDDLE = 1;
    private static final int MOST_WAGONS = 6, FIRST_WAGONS = 3, DOORS = 3, WAGON_LENGTH = 4;
    private static final int MOST_LOAD = 200, MOST_LEVEL = 3, MOST_SPEED = 3;
    private static final int FIRST_PLACE = -1, LAST_PLACE = 99;
    private static final int LAST_TIME = 9999, MOST_SECONDS = 200, MOST_SECONDS_TO_EMPTY = 400;
    private static final int MOST_ORDERS = 10, MOST_BYTES = 60, LAST_BYTE = 127;
    private static final int MOST_STATES = 6, MOST_SCRAPED = 60;
    private static final int WAGON_PARTS = 5, DOOR_PARTS = 2, ORDER_PARTS = 5;
    private static final int PROFILE_PARTS = 6, FORETOLD_PARTS = 7;
    private static final int FIRST_SETTING_COUNT = 14, COUNTS = 19;
    private static final int DIGEST_START = 149, DIGEST_SECONDS = 20;

    private static final int SLOPE = 0, LIMIT = 1, LAG = 2, JAM = 3, AIM = 4, SETTINGS = 5;
    private static final int[] LEAST_SETTING = {1, 1, 0, 0, 0};
    private static final int[] MOST_SETTING = {20, 60, 9, 200, 60};

    private static final int OPENS = 0, CLOSES = 1, WISHES = 2;
    // A letter's place in these texts is the number of its kind or of its door.
    private static final String KIND_LETTERS = "ocv", DOOR_LETTERS = "lmr";

    private final Text text = new Text();
    private final State now = new State();
    // Kept from call to call, so that looking ahead makes no objects.
    private final State ahead = new State();
    private final History history = new History();

    public BallastTrain() {
    }

    // ---- text

    public int type(int letter) {
        if (!isWithin(letter, 0, LAST_BYTE)) {
            return BAD;
        }
        return text.append(letter) ? text.length : FULL;
    }

    public int clearText() {
        int before = text.length;
        text.length = 0;
        return before;
    }

    public int fault() {
        text.read();
        return text.fault;
    }

    // ---- changes

    public int set(int what, int value) {
        if (!isWithin(what, 0, SETTINGS - 1)
                || !isWithin(value, LEAST_SETTING[what], MOST_SETTING[what])) {
            return BAD;
        }
        history.keep(now);
        int before = now.settings[what];
        now.settings[what] = value;
        return before;
    }

    public int setTrain(int wagons) {
        if (!isWithin(wagons, 1, MOST_WAGONS)) {
            return BAD;
        }
        history.keep(now);
        int units = now.train.units();
        now.train.replace(wagons);
        now.taken += units;
        return units;
    }

    public int load(int wagon, int units) {
        if (!now.train.hasWagon(wagon) || !isWithin(units, 1, MOST_LOAD)) {
            return BAD;
        }
        if (now.train.speed != 0) {
            return STATE;
        }
        if (now.train.load[wagon] + units > MOST_LOAD) {
            return FULL;
        }
        history.keep(now);
        now.train.load[wagon] += units;
        now.loaded += units;
        return now.train.load[wagon];
    }

    public int door(int wagon, int door, int level) {
        if (!now.train.hasDoor(wagon, door) || !isWithin(level, 0, MOST_LEVEL)) {
            return BAD;
        }
        history.keep(now);
        int before = now.train.levelOf(wagon, door);
        if (level == 0) {
            now.train.closeDoor(wagon, door, now.settings[LAG]);
        } else {
            now.train.openDoor(wagon, door, level);
        }
        return before;
    }

    public int wish(int speed) {
        if (!isWithin(speed, 0, MOST_SPEED)) {
            return BAD;
        }
        history.keep(now);
        int before = now.train.wish;
        now.train.wish = speed;
        return before;
    }

    public int order() {
        text.read();
        if (text.fault != NONE) {
            return STATE;
        }
        if (now.orders.size() + text.orders.size() > MOST_ORDERS) {
            return FULL;
        }
        history.keep(now);
        addAll(text.orders, now.orders);
        return text.orders.size();
    }

    public int cancel(int i) {
        if (i < 0 || i >= now.orders.size()) {
            return BAD;
        }
        history.keep(now);
        now.orders.remove(i);
        return now.orders.size();
    }

    public int pass(int seconds) {
        if (!isWithin(seconds, 1, MOST_SECONDS)) {
            return BAD;
        }
        if (now.time + seconds > LAST_TIME) {
            return FULL;
        }
        history.keep(now);
        for (int i = 0; i < seconds; i++) {
            now.passSecond();
        }
        return now.train.place;
    }

    public int scrape(int cell, int strip, int most) {
        if (!Track.has(cell, strip) || !isWithin(most, 1, MOST_SCRAPED)) {
            return BAD;
        }
        history.keep(now);
        int units = Math.min(most, now.track.heightAt(cell, strip));
        now.track.add(cell, strip, -units);
        now.taken += units;
        return units;
    }

    // ---- history

    public int undo() {
        if (history.size == 0) {
            return STATE;
        }
        history.restore(now);
        return history.size;
    }

    // ---- what is told

    public int wagon(int wagon, int what) {
        if (!now.train.hasWagon(wagon)) {
            return BAD;
        }
        switch (what) {
            case 0: return now.train.load[wagon];
            case 1: return now.train.cellBelow(wagon);
            case 2: return now.train.sumOfLevels(wagon);
            case 3: return now.train.closingDoors(wagon);
            case 4: return now.train.left[wagon];
            default: return BAD;
        }
    }

    public int doorOf(int wagon, int door, int what) {
        if (!now.train.hasDoor(wagon, door)) {
            return BAD;
        }
        switch (what) {
            case 0: return now.train.levelOf(wagon, door);
            case 1: return now.train.restOf(wagon, door);
            default: return BAD;
        }
    }

    public int height(int cell, int strip) {
        return Track.has(cell, strip) ? now.track.heightAt(cell, strip) : BAD;
    }

    public int profile(int strip, int what) {
        if (!isWithin(strip, 0, STRIPS - 1)) {
            return BAD;
        }
        switch (what) {
            case 0: return now.track.sumOn(strip);
            case 1: return now.track.greatestOn(strip);
            case 2: return now.track.firstGreatestOn(strip);
            case 3: return now.track.cellsReaching(now.settings[AIM], strip);
            case 4: return now.track.longestRowReaching(now.settings[AIM], strip);
            case 5: return now.track.steepestOn(strip);
            default: return BAD;
        }
    }

    public int lacking(int i) {
        if (i < -1) {
            return BAD;
        }
        int aim = now.settings[AIM];
        return i == -1 ? now.track.unitsBelow(aim) : now.track.cellBelow(aim, i);
    }

    public int ordered(int i, int what) {
        if (i < 0 || !isWithin(what, 0, ORDER_PARTS - 1)) {
            return BAD;
        }
        return i < now.orders.size() ? now.orders.get(i).part(what) : NONE;
    }

    public int foretell(int seconds, int what) {
        if (!isWithin(seconds, 1, MOST_SECONDS) || !isWithin(what, 0, FORETOLD_PARTS - 1)) {
            return BAD;
        }
        lookAhead(seconds);
        return foretold(what);
    }

    public int emptyAfter() {
        ahead.copyFrom(now);
        for (int seconds = 0; seconds <= MOST_SECONDS_TO_EMPTY; seconds++) {
            if (ahead.train.units() == 0) {
                return seconds;
            }
            ahead.passSecondOfTrain();
        }
        return NONE;
    }

    // ---- numbers, digest

    public int count(int what) {
        if (isWithin(what, FIRST_SETTING_COUNT, COUNTS - 1)) {
            return now.settings[what - FIRST_SETTING_COUNT];
        }
        switch (what) {
            case 0: return now.train.wagons;
            case 1: return now.train.place;
            case 2: return now.train.speed;
            case 3: return now.train.wish;
            case 4: return now.time;
            case 5: return now.orders.size();
            case 6: return now.jams;
            case 7: return now.loaded;
            case 8: return now.train.units();
            case 9: return now.track.units();
            case 10: return now.lost;
            case 11: return now.taken;
            case 12: return history.size;
            case 13: return text.length;
            default: return BAD;
        }
    }

    public long digest() {
        long h = DIGEST_START;
        for (int what = 0; what < COUNTS; what++) {
            h = mixed(h, count(what));
        }
        h = mixedWithTrain(h);
        h = mixedWithTrack(h);
        h = mixedWithOrders(h);
        lookAhead(DIGEST_SECONDS);
        for (int what = 0; what < FORETOLD_PARTS; what++) {
            h = mixed(h, foretold(what));
        }
        h = mixed(h, emptyAfter());
        for (int i = 0; i < text.length; i++) {
            h = mixed(h, text.byteAt(i));
        }
        return h;
    }

    private long mixedWithTrain(long start) {
        long h = start;
        for (int wagon = 0; wagon < now.train.wagons; wagon++) {
            for (int what = 0; what < WAGON_PARTS; what++) {
                h = mixed(h, wagon(wagon, what));
            }
            for (int door = 0; door < DOORS; door++) {
                for (int what = 0; what < DOOR_PARTS; what++) {
                    h = mixed(h, doorOf(wagon, door, what));
                }
            }
        }
        return h;
    }

    private long mixedWithTrack(long start) {
        long h = start;
        for (int cell = 0; cell < CELLS; cell++) {
            for (int strip = 0; strip < STRIPS; strip++) {
                h = mixed(h, height(cell, strip));
            }
        }
        for (int strip = 0; strip < STRIPS; strip++) {
            for (int what = 0; what < PROFILE_PARTS; what++) {
                h = mixed(h, profile(strip, what));
            }
        }
        return mixed(h, lacking(-1));
    }

    private long mixedWithOrders(long start) {
        long h = start;
        for (int i = 0; i < now.orders.size(); i++) {
            for (int what = 0; what < ORDER_PARTS; what++) {
                h = mixed(h, ordered(i, what));
            }
        }
        return h;
    }

    private static long mixed(long h, int value) {
        return 31 * h + value;
    }

    private void lookAhead(int seconds) {
        ahead.copyFrom(now);
        for (int i = 0; i < seconds; i++) {
            ahead.passSecond();
        }
    }

    private int foretold(int what) {
        switch (what) {
            case 0: return ahead.train.place;
            case 1: return ahead.train.units();
            case 2: return ahead.track.units();
            case 3: return ahead.lost;
            case 4: return ahead.jams;
            case 5: return ahead.track.unitsBelow(ahead.settings[AIM]);
            case 6: return ahead.orders.size();
            default: return BAD;
        }
    }

    private static boolean isWithin(int value, int least, int most) {
        return value >= least && value <= most;
    }

    private static int sum(int[] row) {
        int sum = 0;
        for (int number : row) {
            sum += number;
        }
        return sum;
    }

    private static void copyRow(int[] from, int[] to) {
        System.arraycopy(from, 0, to, 0, Math.min(from.length, to.length));
    }

    private static void addAll(ArrayList<Order> from, ArrayList<Order> to) {
        for (int i = 0; i < from.size(); i++) {
            to.add(from.get(i));
        }
    }

    /** The bytes that were typed, and what the latest reading of them found. */
    private static final class Text {
        static final int END = -1;

        final int[] bytes = new int[MOST_BYTES];
        int length = 0;
        // The orders that stand before the fault; all of them, if it is NONE.
        final ArrayList<Order> orders = new ArrayList<>();
        int fault = NONE;
        int at = 0;

        boolean append(int letter) {
            if (length < 0 || length >= bytes.length) {
                return false;
            }
            bytes[length] = letter;
            length++;
            return true;
        }

        int byteAt(int i) {
            return i >= 0 && i < length && i < bytes.length ? bytes[i] : END;
        }

        void read() {
            orders.clear();
            at = 0;
            fault = NONE;
            skipBlanks();
            // Each round takes a byte or finds a fault, so there are no more rounds than bytes.
            for (int i = 0; i < MOST_BYTES && fault == NONE && at < length; i++) {
                readOrder();
            }
        }

        // Behind a fault, nothing more is taken: the parts that are missing then go nowhere.
        private void readOrder() {
            takeOneOf("@");
            int cell = takeCell();
            int kind = takeOneOf(KIND_LETTERS);
            int wagon = NONE;
            int door = NONE;
            int level = NONE;
            if (kind == OPENS || kind == CLOSES) {
                wagon = takeDigit(0, MOST_WAGONS - 1);
                door = takeOneOf(DOOR_LETTERS);
            }
            if (kind == OPENS) {
                level = takeDigit(1, MOST_LEVEL);
            }
            if (kind == WISHES) {
                level = takeDigit(0, MOST_SPEED);
            }
            takeOneOf(";");
            if (fault == NONE) {
                orders.add(new Order(cell, kind, wagon, door, level));
            }
        }

        private int takeOneOf(String letters) {
            int letter = byteAt(at);
            int number = letter == END ? -1 : letters.indexOf((char) letter);
            return take(number, 0, letters.length() - 1);
        }

        private int takeDigit(int least, int most) {
            return take(byteAt(at) - '0', least, most);
        }

        private int take(int number, int least, int most) {
            if (fault != NONE) {
                return NONE;
            }
            if (!isWithin(number, least, most)) {
                fault = at;
                return NONE;
            }
            at++;
            skipBlanks();
            return number;
        }

        private int takeCell() {
            if (fault != NONE) {
                return NONE;
            }
            int first = at;
            int cell = 0;
            for (int digits = 0; digits < 2 && isDigit(byteAt(at)); digits++) {
                cell = 10 * cell + byteAt(at) - '0';
                at++;
            }
            // A cell that is too high is told by its first digit, whatever follows it.
            if (at == first || cell >= CELLS) {
                fault = first;
                return NONE;
            }
            skipBlanks();
            return cell;
        }

        private void skipBlanks() {
            for (int i = 0; i < MOST_BYTES && byteAt(at) == ' '; i++) {
                at++;
            }
        }

        private static boolean isDigit(int letter) {
            return isWithin(letter, '0', '9');
        }
    }

    /** An order never changes, so that states can share it; what it has not is NONE. */
    private static final class Order {
        final int cell;
        final int kind;
        final int wagon;
        final int door;
        final int level;

        Order(int cell, int kind, int wagon, int door, int level) {
            this.cell = cell;
            this.kind = kind;
            this.wagon = wagon;
            this.door = door;
            this.level = level;
        }

        int part(int what) {
            switch (what) {
                case 0: return cell;
                case 1: return kind;
                case 2: return wagon;
                case 3: return door;
                case 4: return level;
                default: return NONE;
            }
        }

        boolean isDue(Train train) {
            if (kind == WISHES) {
                return train.place >= cell;
            }
            return train.hasDoor(wagon, door) && train.cellBelow(wagon) >= cell;
        }

        void carryOut(Train train, int lag) {
            if (kind == WISHES) {
                train.wish = level;
            } else if (kind == OPENS) {
                train.openDoor(wagon, door, level);
            } else {
                train.closeDoor(wagon, door, lag);
            }
        }
    }

    /** The heights, cell by cell and in each cell strip by strip. */
    private static final class Track {
        final int[] heights = new int[CELLS * STRIPS];

        static boolean has(int cell, int strip) {
            return cell >= 0 && cell < CELLS && strip >= 0 && strip < STRIPS;
        }

        int heightAt(int cell, int strip) {
            return has(cell, strip) ? heights[STRIPS * cell + strip] : 0;
        }

        void add(int cell, int strip, int units) {
            if (has(cell, strip)) {
                heights[STRIPS * cell + strip] += units;
            }
        }

        void slide(int slope) {
            for (int i = 0; i + STRIPS < heights.length; i++) {
                int over = heights[i] - heights[i + STRIPS];
                if (over > slope) {
                    heights[i]--;
                    heights[i + STRIPS]++;
                } else if (over < -slope) {
                    heights[i]++;
                    heights[i + STRIPS]--;
                }
            }
        }

        /** Returns what is cut off. */
        int cutShoulders(int limit) {
            int units = 0;
            for (int i = 0; i < heights.length; i++) {
                int over = heights[i] - limit;
                if (i % STRIPS != MIDDLE && over > 0) {
                    heights[i] -= over;
                    units += over;
                }
            }
            return units;
        }

        int units() {
            return sum(heights);
        }

        int sumOn(int strip) {
            int sum = 0;
            for (int cell = 0; cell < CELLS; cell++) {
                sum += heightAt(cell, strip);
            }
            return sum;
        }

        int greatestOn(int strip) {
            return heightAt(firstGreatestOn(strip), strip);
        }

        int firstGreatestOn(int strip) {
            int first = 0;
            for (int cell = 1; cell < CELLS; cell++) {
                if (heightAt(cell, strip) > heightAt(first, strip)) {
                    first = cell;
                }
            }
            return first;
        }

        int cellsReaching(int aim, int strip) {
            int cells = 0;
            for (int cell = 0; cell < CELLS; cell++) {
                if (heightAt(cell, strip) >= aim) {
                    cells++;
                }
            }
            return cells;
        }

        int longestRowReaching(int aim, int strip) {
            int longest = 0;
            int row = 0;
            for (int cell = 0; cell < CELLS; cell++) {
                row = heightAt(cell, strip) >= aim ? row + 1 : 0;
                longest = Math.max(longest, row);
            }
            return longest;
        }

        int steepestOn(int strip) {
            int steepest = 0;
            for (int cell = 0; cell + 1 < CELLS; cell++) {
                int difference = heightAt(cell, strip) - heightAt(cell + 1, strip);
                steepest = Math.max(steepest, Math.abs(difference));
            }
            return steepest;
        }

        int unitsBelow(int aim) {
            int units = 0;
            for (int height : heights) {
                units += Math.max(0, aim - height);
            }
            return units;
        }

        int cellBelow(int aim, int i) {
            int before = 0;
            for (int cell = 0; cell < CELLS; cell++) {
                if (lowestIn(cell) < aim) {
                    if (before == i) {
                        return cell;
                    }
                    before++;
                }
            }
            return NONE;
        }

        private int lowestIn(int cell) {
            int lowest = heightAt(cell, 0);
            for (int strip = 1; strip < STRIPS; strip++) {
                lowest = Math.min(lowest, heightAt(cell, strip));
            }
            return lowest;
        }
    }

    /** The rows have room for all wagons; those that do not exist are empty, with closed doors. */
    private static final class Train {
        int wagons = FIRST_WAGONS;
        int place = FIRST_PLACE;
        int speed = 0;
        int wish = 0;
        final int[] load = new int[MOST_WAGONS];
        final int[] left = new int[MOST_WAGONS];
        final int[] level = new int[MOST_WAGONS * DOORS];
        // NONE for a door that is not closing.
        final int[] rest = new int[MOST_WAGONS * DOORS];

        Train() {
            Arrays.fill(rest, NONE);
        }

        void replace(int newWagons) {
            wagons = newWagons;
            place = FIRST_PLACE;
            speed = 0;
            wish = 0;
            Arrays.fill(load, 0);
            Arrays.fill(left, 0);
            Arrays.fill(level, 0);
            Arrays.fill(rest, NONE);
        }

        void copyFrom(Train other) {
            wagons = other.wagons;
            place = other.place;
            speed = other.speed;
            wish = other.wish;
            copyRow(other.load, load);
            copyRow(other.left, left);
            copyRow(other.level, level);
            copyRow(other.rest, rest);
        }

        boolean hasWagon(int wagon) {
            return wagon >= 0 && wagon < wagons && wagon < MOST_WAGONS;
        }

        boolean hasDoor(int wagon, int door) {
            return wagon >= 0 && wagon < wagons && wagon < MOST_WAGONS && door >= 0 && door < DOORS;
        }

        int levelOf(int wagon, int door) {
            return hasDoor(wagon, door) ? level[DOORS * wagon + door] : 0;
        }

        int restOf(int wagon, int door) {
            return hasDoor(wagon, door) ? rest[DOORS * wagon + door] : NONE;
        }

        int cellBelow(int wagon) {
            return place - WAGON_LENGTH * wagon;
        }

        int units() {
            return sum(load);
        }

        int sumOfLevels(int wagon) {
            int sum = 0;
            for (int door = 0; door < DOORS; door++) {
                sum += levelOf(wagon, door);
            }
            return sum;
        }

        int closingDoors(int wagon) {
            int doors = 0;
            for (int door = 0; door < DOORS; door++) {
                if (restOf(wagon, door) != NONE) {
                    doors++;
                }
            }
            return doors;
        }

        void openDoor(int wagon, int door, int newLevel) {
            if (hasDoor(wagon, door)) {
                level[DOORS * wagon + door] = newLevel;
                rest[DOORS * wagon + door] = NONE;
            }
        }

        void closeDoor(int wagon, int door, int lag) {
            if (hasDoor(wagon, door) && level[DOORS * wagon + door] != 0) {
                rest[DOORS * wagon + door] = lag;
            }
        }

        void move() {
            if (speed < wish) {
                speed++;
            } else if (speed > wish) {
                speed--;
            }
            place = Math.min(place + speed, LAST_PLACE);
        }

        /** Returns the units that fall. */
        int drop(int wagon, int door) {
            if (!hasDoor(wagon, door)) {
                return 0;
            }
            int units = Math.min(level[DOORS * wagon + door], load[wagon]);
            load[wagon] -= units;
            left[wagon] += units;
            return units;
        }

        /** Returns the number of new jams. */
        int closeFurther(int jam) {
            int jams = 0;
            for (int i = 0; i < MOST_WAGONS * DOORS; i++) {
                if (rest[i] > 0) {
                    rest[i]--;
                } else if (rest[i] == 0) {
                    boolean jammed = load[i / DOORS] > jam;
                    level[i] = jammed ? 1 : 0;
                    rest[i] = NONE;
                    jams += jammed ? 1 : 0;
                }
            }
            return jams;
        }
    }

    /** All that undo() restores and that looking ahead must not change. */
    private static final class State {
        final int[] settings = {4, 12, 1, 100, 8};
        final Track track = new Track();
        final Train train = new Train();
        final ArrayList<Order> orders = new ArrayList<>();
        int time = 0;
        int jams = 0;
        int loaded = 0;
        int lost = 0;
        int taken = 0;

        void copyFrom(State other) {
            copyRow(other.settings, settings);
            copyRow(other.track.heights, track.heights);
            train.copyFrom(other.train);
            orders.clear();
            addAll(other.orders, orders);
            time = other.time;
            jams = other.jams;
            loaded = other.loaded;
            lost = other.lost;
            taken = other.taken;
        }

        void passSecond() {
            train.move();
            carryOutOrders();
            unload();
            track.slide(settings[SLOPE]);
            lost += track.cutShoulders(settings[LIMIT]);
            jams += train.closeFurther(settings[JAM]);
            time++;
        }

        /** Heaps bear on no wagon, so emptyAfter() need not wait for them to slide. */
        void passSecondOfTrain() {
            train.move();
            carryOutOrders();
            unload();
            jams += train.closeFurther(settings[JAM]);
        }

        private void unload() {
            for (int wagon = 0; wagon < train.wagons; wagon++) {
                for (int door = 0; door < DOORS; door++) {
                    land(train.cellBelow(wagon), door, train.drop(wagon, door));
                }
            }
        }

        private void land(int cell, int strip, int units) {
            if (Track.has(cell, strip)) {
                track.add(cell, strip, units);
            } else {
                lost += units;
            }
        }

        private void carryOutOrders() {
            int kept = 0;
            for (int i = 0; i < orders.size(); i++) {
                Order order = orders.get(i);
                if (order.isDue(train)) {
                    order.carryOut(train, settings[LAG]);
                } else {
                    orders.set(kept, order);
                    kept++;
                }
            }
            for (int i = orders.size() - 1; i >= kept; i--) {
                orders.remove(i);
            }
        }
    }

    /** The latest states, in a ring of rows that are used again. */
    private static final class History {
        final State[] states = new State[MOST_STATES];
        int next = 0;
        int size = 0;

        History() {
            for (int i = 0; i < states.length; i++) {
                states[i] = new State();
            }
        }

        void keep(State now) {
            states[Math.floorMod(next, MOST_STATES)].copyFrom(now);
            next++;
            size = Math.min(size + 1, MOST_STATES);
        }

        void restore(State now) {
            next--;
            size--;
            now.copyFrom(states[Math.floorMod(next, MOST_STATES)]);
        }
    }
}

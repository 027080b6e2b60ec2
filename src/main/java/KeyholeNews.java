public final class KeyholeNews {
    public static final int UNKNOWN = -1, BAD = -2, LATE = -3, FULL = -4, NONE = -9;

    private static final int HOUSES_MOST = 6, TEXT_MOST = 48, ACTS_MOST = 14, SEEN_MOST = 6, SLOTS = 2;
    private static final int ROW_MOST = 6, KEYS_ROW_MOST = 3, JUDGED_MOST = 8, SHARE_ROW = 3, ROUNDS_MOST = 30;
    private static final int JOY_MOST = 99, HOUR_MOST = 99, NEWS_MOST = 9, FARTHINGS_MOST = 9, TENTHS = 10;
    private static final int SEEN_HOUR_MOST = 9, SHOWN_MOST = 10, BYTE_MOST = 255;
    // news goes round by three hours and a low hole by two, so what a hole shows goes round by six
    private static final int NEWS_ROUND = 3, SIGHT_ROUND = 6;
    private static final int ROUND = 0, SLIT = 1, STAR = 2, LOW = 3;
    private static final int BEFORE = 0, BEHIND = 1, LOOKED = 2, WAITED = 3;
    private static final int HEAD_BYTES = 2, HOUSE_BYTES = 5;
    private static final long SEED_TIMES = 6364136223846793005L, SEED_PLUS = 1442695040888963407L;
    private static final int SEED_SHIFT = 33, SEED_KINDS = 9, FIRST_LAMP_KIND = 3;

    private final Text text = new Text();
    private final Street street = new Street();
    private final Stand now = new Stand();
    private final Stand trial = new Stand();
    private final Acts acts = new Acts();
    private final Search search = new Search();
    private final Seen seen = new Seen();
    private final Stand[] kept = newStands(SLOTS);
    private final int[] gains = new int[ROW_MOST];
    private int keptSlots = 0;
    private long seed = 0;

    public KeyholeNews() {
    }

    // ---- the street

    public int write(int letter) {
        if (letter < 0 || letter > BYTE_MOST) {
            return BAD;
        }
        if (text.length >= TEXT_MOST) {
            return FULL;
        }
        text.add(letter);
        return text.length;
    }

    public int wipe() {
        int was = text.length;
        text.length = 0;
        return was;
    }

    public int fault() {
        return text.firstFault();
    }

    public int street() {
        if (text.firstFault() != NONE) {
            return LATE;
        }
        street.takeFrom(text);
        now.begin(street);
        acts.count = 0;
        keptSlots = 0;
        return street.count;
    }

    public int about(int what) {
        switch (what) {
            case 0: return street.count;
            case 1: return now.reader;
            case 2: return now.farthings;
            case 3: return now.hour;
            case 4: return now.joy;
            case 5: return now.lamps;
            case 6: return now.keys;
            case 7: return acts.count;
            case 8: return seen.count;
            case 9: return text.length;
            default: return BAD;
        }
    }

    public int house(int house, int what) {
        if (!street.has(house)) {
            return UNKNOWN;
        }
        switch (what) {
            case 0: return street.shapeOf(house);
            case 1:
            case 2:
            case 3: return street.newsOf(house, what - 1);
            case 4: return now.readOf(house);
            default: return BAD;
        }
    }

    public int sight(int house, int hour) {
        if (!street.has(house)) {
            return UNKNOWN;
        }
        if (hour < 0 || hour > HOUR_MOST) {
            return BAD;
        }
        return now.shown(street, house, hour);
    }

    // ---- acts

    public int walk(int way) {
        if (way != BEFORE && way != BEHIND) {
            return BAD;
        }
        if (!now.can(street, way)) {
            return LATE;
        }
        act(way);
        return now.reader;
    }

    public int look() {
        if (!now.can(street, LOOKED)) {
            return LATE;
        }
        return act(LOOKED);
    }

    public int pause() {
        act(WAITED);
        return now.hour;
    }

    public int lamp(int house) {
        if (!street.has(house)) {
            return UNKNOWN;
        }
        acts.remember(now);
        now.lamps ^= 1 << house;
        return now.lamps >> house & 1;
    }

    public int key(int house) {
        if (!street.has(house)) {
            return UNKNOWN;
        }
        acts.remember(now);
        now.keys ^= 1 << house;
        return now.keys >> house & 1;
    }

    public int undo() {
        if (acts.count <= 0) {
            return LATE;
        }
        acts.takeBack(now);
        return acts.count;
    }

    private int act(int turn) {
        acts.remember(now);
        return now.take(street, turn);
    }

    // ---- rows

    public int best(int n, boolean row) {
        if (n < 1 || n > ROW_MOST) {
            return BAD;
        }
        return row ? search.bestRow(street, now, n) : search.most(street, now, n);
    }

    public int fewest(int j) {
        if (j < 1 || j > JOY_MOST) {
            return BAD;
        }
        for (int n = 1; n <= ROW_MOST; n++) {
            if (search.most(street, now, n) >= j) {
                return n;
            }
        }
        return NONE;
    }

    public int keys(int n, int j) {
        if (n < 1 || n > KEYS_ROW_MOST || j < 0 || j > JOY_MOST) {
            return BAD;
        }
        int found = NONE;
        int foundSize = HOUSES_MOST + 1;
        for (int set = 0; set < 1 << street.count; set++) {
            int size = Integer.bitCount(set);
            if ((set & now.keys) == 0 && size < foundSize && bestWithKeys(n, set) <= j) {
                found = set;
                foundSize = size;
            }
        }
        return found;
    }

    public int judge(int n, int row) {
        if (n < 1 || n > JUDGED_MOST || !isRow(n, row)) {
            return BAD;
        }
        trial.copy(now);
        for (int place = 0; place < n; place++) {
            int turn = figure(n, row, place);
            if (!trial.can(street, turn)) {
                return place;
            }
            int gain = trial.take(street, turn);
            if (turn == LOOKED && gain == 0) {
                return place;
            }
        }
        return NONE;
    }

    public int share(int house, boolean upper) {
        if (!street.has(house)) {
            return UNKNOWN;
        }
        int sum = 0;
        for (int come = 0; come < 1 << street.count; come++) {
            if ((come >> house & 1) == 0) {
                int before = Integer.bitCount(come);
                int orders = factorial(before) * factorial(street.count - before - 1);
                sum += orders * (bestAmong(come | 1 << house) - bestAmong(come));
            }
        }
        return partOf(sum, factorial(street.count), upper);
    }

    private int bestWithKeys(int n, int set) {
        trial.copy(now);
        trial.keys |= set;
        return search.most(street, trial, n);
    }

    private int bestAmong(int come) {
        trial.copy(now);
        trial.lamps &= come;
        return search.most(street, trial, SHARE_ROW);
    }

    // ---- shapes

    public int see(int house, int v, int t, int g) {
        if (!street.has(house)) {
            return UNKNOWN;
        }
        if (v < 0 || v > NEWS_MOST || t < 0 || t > SEEN_HOUR_MOST || g < 0 || g > SHOWN_MOST) {
            return BAD;
        }
        if (seen.count >= SEEN_MOST) {
            return FULL;
        }
        seen.add(house, v, t, g);
        return seen.count;
    }

    public int unsee() {
        int was = seen.count;
        seen.count = 0;
        return was;
    }

    public int shapes(int house) {
        if (!street.has(house)) {
            return UNKNOWN;
        }
        int bits = 0;
        for (int shape = ROUND; shape <= LOW; shape++) {
            if (seen.allows(house, shape)) {
                bits |= 1 << shape;
            }
        }
        return bits;
    }

    // ---- rests, chances

    public int rests(int what) {
        if (what != 0 && what != 1) {
            return BAD;
        }
        int count = 0;
        int first = NONE;
        for (int one = 0; one < street.count; one++) {
            for (int other = 0; other < street.count; other++) {
                if (isContent(one, other) && isContent(other, one)) {
                    first = count == 0 ? 10 * one + other : first;
                    count++;
                }
            }
        }
        return what == 0 ? count : first;
    }

    public int chance(int n, int row, int j, int x, boolean upper) {
        if (n < 1 || n > ROW_MOST || !isRow(n, row) || j < 0 || j > JOY_MOST || x < 0 || x > TENTHS) {
            return BAD;
        }
        int looks = gatherGains(n, row);
        if (looks < 0) {
            return partOf(0, 1, upper);
        }
        int good = 0;
        for (int clear = 0; clear < 1 << looks; clear++) {
            if (joyOf(looks, clear) >= j) {
                good += weightOf(looks, clear, x);
            }
        }
        return partOf(good, power(TENTHS, looks), upper);
    }

    public long seed(long v) {
        long was = seed;
        seed = v;
        return was;
    }

    public int rounds(int m) {
        if (m < 1 || m > ROUNDS_MOST) {
            return BAD;
        }
        trial.copy(now);
        for (int i = 0; i < m; i++) {
            seed = seed * SEED_TIMES + SEED_PLUS;
            playRound((int) ((seed >>> SEED_SHIFT) % SEED_KINDS));
        }
        return trial.joy - now.joy;
    }

    private boolean isContent(int mine, int others) {
        int has = restJoy(mine, others);
        for (int house = 0; house < street.count; house++) {
            if (restJoy(house, others) > has) {
                return false;
            }
        }
        return true;
    }

    private int restJoy(int mine, int others) {
        int whole = now.shown(street, mine, now.hour);
        return mine == others ? whole / 2 : whole;
    }

    private int gatherGains(int n, int row) {
        int looks = 0;
        trial.copy(now);
        for (int place = 0; place < n; place++) {
            int turn = figure(n, row, place);
            if (!trial.can(street, turn)) {
                return -1;
            }
            int gain = trial.take(street, turn);
            if (turn == LOOKED && looks < gains.length) {
                gains[looks] = gain;
                looks++;
            }
        }
        return looks;
    }

    private int joyOf(int looks, int clear) {
        int joy = 0;
        for (int i = 0; i < looks && i < gains.length; i++) {
            joy += (clear >> i & 1) * gains[i];
        }
        return joy;
    }

    private static int weightOf(int looks, int clear, int x) {
        int clearLooks = Integer.bitCount(clear);
        return power(TENTHS - x, clearLooks) * power(x, looks - clearLooks);
    }

    private void playRound(int kind) {
        if (kind < FIRST_LAMP_KIND) {
            trial.take(street, trial.can(street, kind) ? kind : WAITED);
        } else if (street.has(kind - FIRST_LAMP_KIND)) {
            trial.lamps ^= 1 << (kind - FIRST_LAMP_KIND);
        }
    }

    // ---- slots

    public int keep(int slot) {
        if (slot < 0 || slot >= kept.length) {
            return UNKNOWN;
        }
        kept[slot].copy(now);
        keptSlots |= 1 << slot;
        return now.hour;
    }

    public int again(int slot) {
        if (slot < 0 || slot >= kept.length) {
            return UNKNOWN;
        }
        if ((keptSlots >> slot & 1) == 0) {
            return LATE;
        }
        now.copy(kept[slot]);
        acts.count = 0;
        return now.hour;
    }

    // ---- rows as figures, fractions

    private static boolean isRow(int n, int row) {
        if (row < 0 || row >= power(10, n)) {
            return false;
        }
        for (int place = 0; place < n; place++) {
            if (figure(n, row, place) > WAITED) {
                return false;
            }
        }
        return true;
    }

    private static int figure(int n, int row, int place) {
        int rest = row;
        for (int i = place + 1; i < n; i++) {
            rest /= 10;
        }
        return rest % 10;
    }

    private static int power(int base, int times) {
        int product = 1;
        for (int i = 0; i < times; i++) {
            product *= base;
        }
        return product;
    }

    private static int factorial(int n) {
        int product = 1;
        for (int i = 2; i <= n; i++) {
            product *= i;
        }
        return product;
    }

    private static int partOf(int above, int below, boolean upper) {
        int divisor = commonDivisor(above, below);
        if (divisor == 0) {
            return 0;
        }
        return upper ? above / divisor : below / divisor;
    }

    private static int commonDivisor(int a, int b) {
        int big = a;
        int small = b;
        // Euclid on ints ends within 46 steps
        for (int i = 0; i < 64 && small != 0; i++) {
            int left = big % small;
            big = small;
            small = left;
        }
        return big;
    }

    private static Stand[] newStands(int count) {
        Stand[] stands = new Stand[Math.max(count, 0)];
        for (int i = 0; i < stands.length; i++) {
            stands[i] = new Stand();
        }
        return stands;
    }

    private static final class Text {
        final int[] bytes = new int[TEXT_MOST];
        int length = 0;

        void add(int letter) {
            if (length >= 0 && length < bytes.length) {
                bytes[length] = letter;
                length++;
            }
        }

        int at(int place) {
            return place >= 0 && place < length && place < bytes.length ? bytes[place] : -1;
        }

        int digitAt(int place) {
            return at(place) - '0';
        }

        int housesTold() {
            return (length - HEAD_BYTES) / HOUSE_BYTES;
        }

        int firstFault() {
            for (int place = 0; place < length; place++) {
                if (!fits(place)) {
                    return place;
                }
            }
            boolean ended = length >= HEAD_BYTES && (length - HEAD_BYTES) % HOUSE_BYTES == 0;
            return ended ? NONE : length;
        }

        private boolean fits(int place) {
            if (place == 0) {
                return at(place) == 'N';
            }
            if (place < HEAD_BYTES) {
                return isDigit(place, FARTHINGS_MOST);
            }
            int house = (place - HEAD_BYTES) / HOUSE_BYTES;
            int part = (place - HEAD_BYTES) % HOUSE_BYTES;
            if (part == 0) {
                return at(place) == 'H' && house < HOUSES_MOST;
            }
            return isDigit(place, part == 1 ? LOW : NEWS_MOST);
        }

        private boolean isDigit(int place, int most) {
            return digitAt(place) >= 0 && digitAt(place) <= most;
        }
    }

    private static final class Street {
        final int[] shapes = new int[HOUSES_MOST];
        final int[] news = new int[HOUSES_MOST * NEWS_ROUND];
        final int[] sights = new int[HOUSES_MOST * SIGHT_ROUND];
        int count = 0;
        int farthings = 0;

        void takeFrom(Text text) {
            farthings = text.digitAt(1);
            count = Math.min(text.housesTold(), HOUSES_MOST);
            for (int house = 0; house < count; house++) {
                int start = HEAD_BYTES + house * HOUSE_BYTES;
                shapes[house] = text.digitAt(start + 1);
                for (int i = 0; i < NEWS_ROUND; i++) {
                    news[house * NEWS_ROUND + i] = text.digitAt(start + 2 + i);
                }
                for (int hour = 0; hour < SIGHT_ROUND; hour++) {
                    sights[house * SIGHT_ROUND + hour] = through(shapes[house], newsOf(house, hour), hour);
                }
            }
        }

        boolean has(int house) {
            return house >= 0 && house < count;
        }

        int shapeOf(int house) {
            return has(house) ? shapes[house] : ROUND;
        }

        int newsOf(int house, int hour) {
            return has(house) ? news[house * NEWS_ROUND + Math.floorMod(hour, NEWS_ROUND)] : 0;
        }

        static int through(int shape, int going, int hour) {
            switch (shape) {
                case SLIT: return going / 2;
                case STAR: return going > 0 ? going + 1 : 0;
                case LOW: return hour % 2 != 0 ? 0 : going;
                default: return going;
            }
        }
    }

    /** All that acts change, so that a copy of it is enough to undo, to keep and to look ahead. */
    private static final class Stand {
        int reader = 0;
        int farthings = 0;
        int hour = 0;
        int joy = 0;
        int lamps = 0;
        int keys = 0;
        int read = 0;

        void begin(Street street) {
            reader = 0;
            farthings = street.farthings;
            hour = 0;
            joy = 0;
            lamps = (1 << street.count) - 1;
            keys = 0;
            read = 0;
        }

        void copy(Stand other) {
            reader = other.reader;
            farthings = other.farthings;
            hour = other.hour;
            joy = other.joy;
            lamps = other.lamps;
            keys = other.keys;
            read = other.read;
        }

        int readOf(int house) {
            return read >> house * NEWS_ROUND & (1 << NEWS_ROUND) - 1;
        }

        int shown(Street street, int house, int inHour) {
            boolean open = ((lamps & ~keys) >> house & 1) != 0;
            int place = house * SIGHT_ROUND + inHour % SIGHT_ROUND;
            return open && place >= 0 && place < street.sights.length ? street.sights[place] : 0;
        }

        boolean can(Street street, int turn) {
            switch (turn) {
                case BEFORE: return reader > 0;
                case BEHIND: return reader + 1 < street.count;
                case LOOKED: return reader < street.count && farthings > 0;
                default: return true;
            }
        }

        /** Takes a turn that can be; answers the joy of it. */
        int take(Street street, int turn) {
            int gain = 0;
            if (turn == BEFORE) {
                reader--;
            } else if (turn == BEHIND) {
                reader++;
            } else if (turn == LOOKED) {
                gain = gain(street);
                farthings--;
                joy += gain;
                read |= newsBit();
            }
            hour++;
            return gain;
        }

        int gain(Street street) {
            return (read & newsBit()) != 0 ? 0 : shown(street, reader, hour);
        }

        private int newsBit() {
            return 1 << reader * NEWS_ROUND + hour % NEWS_ROUND;
        }
    }

    /** The acts that can be undone: of each, how all stood before it. */
    private static final class Acts {
        final Stand[] before = newStands(ACTS_MOST);
        int first = 0;
        int count = 0;

        void remember(Stand now) {
            before[Math.floorMod(first + count, ACTS_MOST)].copy(now);
            if (count < ACTS_MOST) {
                count++;
            } else {
                first = Math.floorMod(first + 1, ACTS_MOST);
            }
        }

        void takeBack(Stand now) {
            count--;
            now.copy(before[Math.floorMod(first + count, ACTS_MOST)]);
        }
    }

    private static final class Search {
        final Stand[] levels = newStands(ROW_MOST + 1);
        final Stand at = new Stand();

        /** How much more joy than from has. */
        int most(Street street, Stand from, int n) {
            if (n < 0 || n >= levels.length) {
                return 0;
            }
            levels[n].copy(from);
            return mostBelow(street, levels, n) - from.joy;
        }

        /** The row's figures are found one by one: the least turn that still leaves the most to be had. */
        int bestRow(Street street, Stand from, int n) {
            int goal = from.joy + most(street, from, n);
            int row = 1;
            at.copy(from);
            for (int left = n - 1; left >= 0; left--) {
                int turn = firstTurnTo(street, goal, left);
                at.take(street, turn);
                row = row * 10 + turn;
            }
            return row;
        }

        private int firstTurnTo(Street street, int goal, int left) {
            for (int turn = BEFORE; turn < WAITED && left < levels.length; turn++) {
                if (at.can(street, turn)) {
                    levels[left].copy(at);
                    levels[left].take(street, turn);
                    if (mostBelow(street, levels, left) == goal) {
                        return turn;
                    }
                }
            }
            return WAITED;
        }

        /** The most joy, all in all, that there can be when the turns left are taken from the stand of that level. */
        private static int mostBelow(Street street, Stand[] levels, int left) {
            if (left < 0 || left >= levels.length) {
                return 0;
            }
            Stand from = levels[left];
            // without a farthing there is no joy any more, and a last turn brings some by a look alone
            if (left == 0 || !from.can(street, LOOKED)) {
                return from.joy;
            }
            if (left == 1) {
                return from.joy + from.gain(street);
            }
            int most = from.joy;
            for (int turn = BEFORE; turn <= WAITED; turn++) {
                if (from.can(street, turn)) {
                    levels[left - 1].copy(from);
                    levels[left - 1].take(street, turn);
                    most = Math.max(most, mostBelow(street, levels, left - 1));
                }
            }
            return most;
        }
    }

    private static final class Seen {
        final int[] houses = new int[SEEN_MOST];
        final int[] goings = new int[SEEN_MOST];
        final int[] hours = new int[SEEN_MOST];
        final int[] shown = new int[SEEN_MOST];
        int count = 0;

        void add(int house, int going, int hour, int showed) {
            if (count >= 0 && count < SEEN_MOST) {
                houses[count] = house;
                goings[count] = going;
                hours[count] = hour;
                shown[count] = showed;
                count++;
            }
        }

        boolean allows(int house, int shape) {
            for (int i = 0; i < count && i < SEEN_MOST; i++) {
                if (houses[i] == house && Street.through(shape, goings[i], hours[i]) != shown[i]) {
                    return false;
                }
            }
            return true;
        }
    }
}

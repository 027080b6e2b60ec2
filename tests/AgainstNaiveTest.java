import java.math.BigInteger;
import java.util.ArrayList;
import java.util.Arrays;
import java.util.List;
import java.util.Random;

/** Long runs of calls by a fixed seed; each answer against a street that is told in the slowest, most literal way. */
public final class AgainstNaiveTest {
    private static final int RUNS = 400;
    /** A step makes some 60 calls at most, and nothing is promised behind the 512th call. */
    private static final int CALLS_BEFORE_LAST_STEP = 430;

    /** How all stands: what acts change. */
    private static final class Now {
        int at, farthings, hour, joy;
        boolean[] lit = new boolean[6], locked = new boolean[6];
        boolean[][] read = new boolean[6][3];

        Now again() {
            Now n = new Now();
            n.at = at;
            n.farthings = farthings;
            n.hour = hour;
            n.joy = joy;
            n.lit = lit.clone();
            n.locked = locked.clone();
            for (int i = 0; i < 6; i++) {
                n.read[i] = read[i].clone();
            }
            return n;
        }
    }

    private static final class Naive {
        List<Integer> text = new ArrayList<>();
        List<String> houses = new ArrayList<>();
        Now start = new Now();
        List<int[]> acts = new ArrayList<>();
        List<int[]> seen = new ArrayList<>();
        Now[] slots = new Now[2];
        BigInteger seed = BigInteger.ZERO;

        Now now() {
            Now n = start.again();
            for (int[] act : acts) {
                apply(n, act[0], act[1]);
            }
            return n;
        }

        int sight(Now n, int house, int hour) {
            if (!n.lit[house] || n.locked[house]) {
                return 0;
            }
            return through(houses.get(house).charAt(1), houses.get(house).charAt(2 + hour % 3) - '0', hour);
        }

        static int through(char shape, int news, int hour) {
            if (shape == '1') {
                return (news - news % 2) / 2;
            }
            if (shape == '2') {
                return news == 0 ? 0 : news + 1;
            }
            return shape == '3' && hour % 2 == 1 ? 0 : news;
        }

        /** The joy of it; -1 if it can not be. Acts 4 and 5 are LAMP and KEY. */
        int apply(Now n, int act, int house) {
            if (act == 4) {
                n.lit[house] = !n.lit[house];
                return 0;
            }
            if (act == 5) {
                n.locked[house] = !n.locked[house];
                return 0;
            }
            if (act == 0 && n.at - 1 < 0 || act == 1 && n.at + 1 >= houses.size()) {
                return -1;
            }
            if (act == 2 && (houses.isEmpty() || n.farthings == 0)) {
                return -1;
            }
            int joy = 0;
            if (act == 2) {
                joy = n.read[n.at][n.hour % 3] ? 0 : sight(n, n.at, n.hour);
                n.read[n.at][n.hour % 3] = true;
                n.farthings--;
                n.joy += joy;
            }
            n.at += act == 0 ? -1 : act == 1 ? 1 : 0;
            n.hour++;
            return joy;
        }

        void did(int act, int house) {
            acts.add(new int[] {act, house});
            if (acts.size() > 14) {
                int[] first = acts.remove(0);
                apply(start, first[0], first[1]);
            }
        }

        int fault() {
            String whole = "";
            for (int i = 0; i < text.size(); i++) {
                whole += (char) (int) text.get(i);
                if (!canBegin(whole)) {
                    return i;
                }
            }
            return whole.matches("N[0-9](H[0-3][0-9]{3}){0,6}") ? -9 : text.size();
        }

        /** Whether some street begins so: one of the ends makes it whole. */
        static boolean canBegin(String whole) {
            for (String end : new String[] {"", "000", "00", "0", "0000", "H0000", "N0"}) {
                if ((whole + end).matches("(?s)N[0-9](H[0-3][0-9]{3}){0,6}")) {
                    return true;
                }
            }
            return false;
        }

        int street() {
            if (fault() != -9) {
                return -3;
            }
            houses.clear();
            start = new Now();
            start.farthings = text.get(1) - '0';
            for (int i = 2; i < text.size(); i += 5) {
                String house = "";
                for (int k = 0; k < 5; k++) {
                    house += (char) (int) text.get(i + k);
                }
                houses.add(house);
                start.lit[houses.size() - 1] = true;
            }
            acts.clear();
            slots = new Now[2];
            return houses.size();
        }

        static int bits(boolean[] which) {
            int bits = 0;
            for (int i = 0; i < which.length; i++) {
                bits += which[i] ? (int) Math.pow(2, i) : 0;
            }
            return bits;
        }

        /** The most joy and its first row, of n turns. */
        int[] best(Now from, int n) {
            int most = -1;
            int row = 0;
            for (int code = 0; code < Math.pow(4, n); code++) {
                Now at = from.again();
                int told = 1;
                boolean can = true;
                for (int i = n - 1; i >= 0 && can; i--) {
                    int turn = (code >> 2 * i) % 4;
                    told = told * 10 + turn;
                    can = apply(at, turn, 0) >= 0;
                }
                if (can && at.joy - from.joy > most) {
                    most = at.joy - from.joy;
                    row = told;
                }
            }
            return new int[] {most, row};
        }

        int keys(int n, int j) {
            for (int size = 0; size <= houses.size(); size++) {
                for (int set = 0; set < 64; set++) {
                    Now at = now();
                    boolean free = Integer.bitCount(set) == size;
                    for (int i = 0; i < 6; i++) {
                        if ((set >> i) % 2 == 1) {
                            free = free && i < houses.size() && !at.locked[i];
                            at.locked[i] = true;
                        }
                    }
                    if (free && best(at, n)[0] <= j) {
                        return set;
                    }
                }
            }
            return -9;
        }

        static String figures(int n, int row) {
            String told = String.valueOf(row);
            while (told.length() < n) {
                told = "0" + told;
            }
            return told.matches("[0-3]{" + n + "}") ? told : null;
        }

        int judge(int n, int row) {
            String told = n < 1 || n > 8 ? null : figures(n, row);
            if (told == null) {
                return -2;
            }
            Now at = now();
            for (int i = 0; i < n; i++) {
                int turn = told.charAt(i) - '0';
                int joy = apply(at, turn, 0);
                if (joy < 0 || joy == 0 && turn == 2) {
                    return i;
                }
            }
            return -9;
        }

        int share(int house, boolean upper) {
            List<Integer> left = new ArrayList<>();
            for (int i = 0; i < houses.size(); i++) {
                left.add(i);
            }
            long[] told = new long[2];
            int[] worth = new int[64];
            Arrays.fill(worth, -1);
            orders(left, new ArrayList<>(), house, told, worth);
            return part(BigInteger.valueOf(told[0]), BigInteger.valueOf(told[1]), upper);
        }

        void orders(List<Integer> left, List<Integer> come, int house, long[] told, int[] worth) {
            if (left.isEmpty()) {
                int place = come.indexOf(house);
                told[0] += worthOf(come.subList(0, place + 1), worth) - worthOf(come.subList(0, place), worth);
                told[1]++;
            }
            for (Integer next : left) {
                List<Integer> rest = new ArrayList<>(left);
                rest.remove(next);
                List<Integer> more = new ArrayList<>(come);
                more.add(next);
                orders(rest, more, house, told, worth);
            }
        }

        int worthOf(List<Integer> come, int[] worth) {
            Now at = now();
            boolean[] in = new boolean[6];
            for (int house : come) {
                in[house] = true;
            }
            for (int i = 0; i < 6; i++) {
                at.lit[i] = at.lit[i] && in[i];
            }
            if (worth[bits(in)] < 0) {
                worth[bits(in)] = best(at, 3)[0];
            }
            return worth[bits(in)];
        }

        static int part(BigInteger above, BigInteger below, boolean upper) {
            BigInteger both = above.gcd(below);
            return (upper ? above : below).divide(both).intValueExact();
        }

        int shapes(int house) {
            int bits = 0;
            for (int shape = 0; shape < 4; shape++) {
                boolean so = true;
                for (int[] s : seen) {
                    so = so && (s[0] != house || through((char) ('0' + shape), s[1], s[2]) == s[3]);
                }
                bits += so ? (int) Math.pow(2, shape) : 0;
            }
            return bits;
        }

        int has(Now n, int mine, int others) {
            int sight = sight(n, mine, n.hour);
            return mine == others ? sight / 2 : sight;
        }

        int rests(int what) {
            Now n = now();
            List<Integer> pairs = new ArrayList<>();
            for (int a = 0; a < houses.size(); a++) {
                for (int b = 0; b < houses.size(); b++) {
                    boolean rest = true;
                    for (int c = 0; c < houses.size(); c++) {
                        rest = rest && has(n, c, b) <= has(n, a, b) && has(n, c, a) <= has(n, b, a);
                    }
                    if (rest) {
                        pairs.add(10 * a + b);
                    }
                }
            }
            return what == 0 ? pairs.size() : pairs.isEmpty() ? -9 : pairs.get(0);
        }

        int chance(int n, int row, int j, int x, boolean upper) {
            String told = n < 1 || n > 6 ? null : figures(n, row);
            if (told == null || j < 0 || j > 99 || x < 0 || x > 10) {
                return -2;
            }
            long good = fogged(now(), told, j, x);
            return good < 0 ? (upper ? 0 : 1)
                    : part(BigInteger.valueOf(good), BigInteger.TEN.pow(n), upper);
        }

        /** Of all 10 to the n cases (a turn that is no look counts tenfold) the good ones; -1 if it can not be. */
        long fogged(Now at, String told, int j, int x) {
            if (told.isEmpty()) {
                return j <= 0 ? 1 : 0;
            }
            int turn = told.charAt(0) - '0';
            int joy = apply(at, turn, 0);
            if (joy < 0) {
                return -1;
            }
            long clear = fogged(at.again(), told.substring(1), j - joy, x);
            long fog = fogged(at.again(), told.substring(1), j, x);
            if (clear < 0) {
                return -1;
            }
            return turn == 2 ? clear * (10 - x) + fog * x : clear * 10;
        }

        int rounds(int m) {
            BigInteger wrap = BigInteger.ONE.shiftLeft(64);
            Now at = now();
            int was = at.joy;
            for (int i = 0; i < m; i++) {
                seed = seed.multiply(new BigInteger("6364136223846793005"))
                        .add(new BigInteger("1442695040888963407")).mod(wrap);
                int kind = seed.shiftRight(33).mod(BigInteger.valueOf(9)).intValue();
                if (kind >= 3) {
                    if (kind - 3 < houses.size()) {
                        apply(at, 4, kind - 3);
                    }
                } else if (apply(at, kind, 0) < 0) {
                    apply(at, 3, 0);
                }
            }
            return at.joy - was;
        }
    }

    private final Random chance;
    private final KeyholeNews x = new KeyholeNews();
    private final Naive y = new Naive();
    private final int run;
    private final StringBuilder calls = new StringBuilder();
    private int made = 0;
    private int wrong = 0;

    private AgainstNaiveTest(int run) {
        this.run = run;
        chance = new Random(run);
    }

    private void due(String call, long got, long want) {
        made++;
        calls.append(call).append("; ");
        if (got != want) {
            wrong++;
            System.out.println("run " + run + ": " + call + " answered " + got + ", due is " + want + "; behind " + calls);
        }
    }

    private int some(int from, int to) {
        return from + chance.nextInt(to - from + 1);
    }

    /** Mostly a house that there is. */
    private int someHouse() {
        return y.houses.isEmpty() || chance.nextInt(12) == 0 ? some(-1, 6) : chance.nextInt(y.houses.size());
    }

    private boolean isHouse(int house) {
        return house >= 0 && house < y.houses.size();
    }

    /** Mostly a row that can be told. */
    private int someRow(int n) {
        int row = 0;
        for (int i = 0; i < n; i++) {
            row = row * 10 + some(chance.nextInt(3) == 0 ? 0 : 2, chance.nextInt(30) == 0 ? 4 : 3 - chance.nextInt(2));
        }
        return chance.nextInt(25) == 0 ? -row : row;
    }

    private void tellStreet() {
        due("wipe()", x.wipe(), y.text.size());
        y.text.clear();
        String told = "N" + some(0, 9);
        int houses = some(0, 6);
        for (int i = 0; i < houses; i++) {
            told += "H" + some(0, 3) + some(0, 9) + some(0, 9) * some(0, 1) + some(0, 9);
        }
        if (chance.nextInt(4) == 0) {
            told = told.substring(0, some(0, told.length())) + "NH0394:/"
                    .substring(some(0, 7));
        }
        for (int i = 0; i < told.length(); i++) {
            write(told.charAt(i));
        }
        due("fault()", x.fault(), y.fault());
        due("street()", x.street(), y.street());
    }

    private void write(int letter) {
        int want = letter < 0 || letter > 255 ? -2 : y.text.size() == 48 ? -4 : y.text.size() + 1;
        if (want > 0) {
            y.text.add(letter);
        }
        due("write(" + letter + ")", x.write(letter), want);
    }

    private void checkAll() {
        Now n = y.now();
        int[] want = {y.houses.size(), n.at, n.farthings, n.hour, n.joy, Naive.bits(n.lit), Naive.bits(n.locked),
            y.acts.size(), y.seen.size(), y.text.size()};
        for (int what = 0; what < 10; what++) {
            due("about(" + what + ")", x.about(what), want[what]);
        }
    }

    private void turn(int act) {
        int joy = y.apply(y.now(), act, 0);
        if (joy >= 0) {
            y.did(act, 0);
        }
        Now n = y.now();
        if (act < 2) {
            due("walk(" + act + ")", x.walk(act), joy < 0 ? -3 : n.at);
        } else if (act == 2) {
            due("look()", x.look(), joy < 0 ? -3 : joy);
        } else {
            due("pause()", x.pause(), n.hour);
        }
    }

    private void lampOrKey(int act) {
        int house = someHouse();
        int want = -1;
        if (isHouse(house)) {
            y.did(act, house);
            Now n = y.now();
            want = (act == 4 ? n.lit[house] : n.locked[house]) ? 1 : 0;
        }
        due((act == 4 ? "lamp(" : "key(") + house + ")", act == 4 ? x.lamp(house) : x.key(house), want);
    }

    private void undo() {
        int want = -3;
        if (!y.acts.isEmpty()) {
            want = y.acts.size() - 1;
            y.acts.remove(want);
        }
        due("undo()", x.undo(), want);
    }

    private void oneAct() {
        int kind = some(0, 13);
        if (kind < 4) {
            turn(kind);
        } else if (kind < 8) {
            turn(2);
        } else if (kind < 10) {
            turn(1 - chance.nextInt(2));
        } else if (kind < 12) {
            lampOrKey(kind - 6);
        } else {
            undo();
        }
    }

    private void lookAtHouse() {
        int house = someHouse();
        int what = some(-1, 5);
        int want = -1;
        if (isHouse(house)) {
            want = what < 0 || what > 4 ? -2 : what == 4 ? Naive.bits(y.now().read[house])
                    : y.houses.get(house).charAt(1 + what) - '0';
        }
        due("house(" + house + ", " + what + ")", x.house(house, what), want);
        int hour = some(-1, 100);
        want = !isHouse(house) ? -1 : hour < 0 || hour > 99 ? -2 : y.sight(y.now(), house, hour);
        due("sight(" + house + ", " + hour + ")", x.sight(house, hour), want);
    }

    private void rows() {
        int n = some(0, 7);
        boolean row = chance.nextBoolean();
        int[] best = n < 1 || n > 6 ? new int[] {-2, -2} : y.best(y.now(), n);
        due("best(" + n + ", " + row + ")", x.best(n, row), best[row ? 1 : 0]);
        int j = some(-1, chance.nextInt(3) == 0 ? 101 : 25);
        int fewest = j < 1 || j > 99 ? -2 : -9;
        for (int i = 1; i <= 6 && fewest == -9; i++) {
            fewest = y.best(y.now(), i)[0] >= j ? i : -9;
        }
        due("fewest(" + j + ")", x.fewest(j), fewest);
    }

    private void keysAndShare() {
        int n = some(0, 4);
        int j = some(-1, chance.nextInt(8) == 0 ? 101 : 15);
        int want = n < 1 || n > 3 || j < 0 || j > 99 ? -2 : y.keys(n, j);
        due("keys(" + n + ", " + j + ")", x.keys(n, j), want);
        int house = someHouse();
        boolean upper = chance.nextBoolean();
        due("share(" + house + ", " + upper + ")", x.share(house, upper), isHouse(house) ? y.share(house, upper) : -1);
    }

    private void judgeAndChance() {
        int n = some(0, 9);
        int row = someRow(Math.min(n, 9));
        due("judge(" + n + ", " + row + ")", x.judge(n, row), y.judge(n, row));
        n = some(0, 7);
        row = someRow(n);
        int j = some(-1, chance.nextInt(8) == 0 ? 101 : 12);
        int tenths = some(-1, 11);
        boolean upper = chance.nextBoolean();
        due("chance(" + n + ", " + row + ", " + j + ", " + tenths + ", " + upper + ")",
                x.chance(n, row, j, tenths, upper), y.chance(n, row, j, tenths, upper));
    }

    private void seeing() {
        int house = someHouse();
        int v = some(chance.nextInt(9) == 0 ? -1 : 0, chance.nextInt(9) == 0 ? 10 : 9);
        int t = some(chance.nextInt(9) == 0 ? -1 : 0, chance.nextInt(9) == 0 ? 10 : 9);
        int g = chance.nextInt(9) == 0 ? some(-1, 11) : Naive.through((char) ('0' + some(0, 3)), Math.max(v, 0), t);
        boolean good = v >= 0 && v <= 9 && t >= 0 && t <= 9 && g >= 0 && g <= 10;
        int want = !isHouse(house) ? -1 : !good ? -2 : y.seen.size() == 6 ? -4 : y.seen.size() + 1;
        if (want > 0) {
            y.seen.add(new int[] {house, v, t, g});
        }
        due("see(" + house + ", " + v + ", " + t + ", " + g + ")", x.see(house, v, t, g), want);
        house = someHouse();
        due("shapes(" + house + ")", x.shapes(house), isHouse(house) ? y.shapes(house) : -1);
        if (chance.nextInt(12) == 0) {
            due("unsee()", x.unsee(), y.seen.size());
            y.seen.clear();
        }
    }

    private void restsAndRounds() {
        int what = some(-1, 2);
        due("rests(" + what + ")", x.rests(what), what == 0 || what == 1 ? y.rests(what) : -2);
        if (chance.nextInt(3) == 0) {
            long v = chance.nextLong();
            due("seed(" + v + ")", x.seed(v), y.seed.longValue());
            y.seed = BigInteger.valueOf(v).mod(BigInteger.ONE.shiftLeft(64));
        }
        int m = some(-1, 32);
        due("rounds(" + m + ")", x.rounds(m), m < 1 || m > 30 ? -2 : y.rounds(m));
    }

    private void slots() {
        int slot = some(chance.nextInt(6) == 0 ? -1 : 0, chance.nextInt(6) == 0 ? 2 : 1);
        boolean is = slot == 0 || slot == 1;
        if (chance.nextBoolean()) {
            if (is) {
                y.slots[slot] = y.now();
            }
            due("keep(" + slot + ")", x.keep(slot), is ? y.now().hour : -1);
            return;
        }
        int want = !is ? -1 : y.slots[slot] == null ? -3 : y.slots[slot].hour;
        if (want >= 0) {
            y.start = y.slots[slot].again();
            y.acts.clear();
        }
        due("again(" + slot + ")", x.again(slot), want);
    }

    private int go() {
        if (chance.nextInt(10) > 0) {
            tellStreet();
        }
        while (made < CALLS_BEFORE_LAST_STEP) {
            int kind = some(0, 99);
            if (kind < 60) {
                oneAct();
            } else if (kind < 65) {
                lookAtHouse();
            } else if (kind < 68) {
                rows();
            } else if (kind < 70) {
                keysAndShare();
            } else if (kind < 78) {
                judgeAndChance();
            } else if (kind < 83) {
                seeing();
            } else if (kind < 88) {
                restsAndRounds();
            } else if (kind < 93) {
                slots();
            } else if (kind < 96) {
                checkAll();
            } else if (kind < 98) {
                write(some(-1, 256));
            } else if (kind < 99) {
                tellStreet();
            }
        }
        checkAll();
        if (made > 512) {
            wrong++;
            System.out.println("run " + run + ": the test makes " + made + " calls, 512 are promised");
        }
        return wrong;
    }

    public static void main(String[] args) {
        int wrong = 0;
        for (int run = 0; run < RUNS && wrong == 0; run++) {
            wrong += new AgainstNaiveTest(run).go();
        }
        System.out.println(wrong == 0 ? "all answers are as due" : wrong + " answers are not as due");
        if (wrong != 0) {
            System.exit(1);
        }
    }
}

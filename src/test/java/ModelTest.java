import java.util.ArrayList;
import java.util.List;
import java.util.Random;

/**
 * Long runs of calls against a second desk, written plainly from the document's words: it counts common minutes one by
 * one, tries every set, and keeps the data of each minute on its own. The seeds are fixed.
 */
public final class ModelTest {
    private static final int RUNS = 600;
    private static final int CALLS = 512;
    private static final int CALLS_OF_A_STEP = 3;
    private static final int LATE = 9700;

    public static void main(String[] args) {
        for (int seed = 0; seed < RUNS; seed++) {
            new ModelTest(seed).play();
        }
        Check.end();
    }

    private interface Answer {
        double get();
    }

    private final Random random;
    private final int seed;
    private final int crowd;
    private final PassDesk desk = new PassDesk();
    private final Model model = new Model();
    private int calls = 0;

    private ModelTest(int seed) {
        this.seed = seed;
        this.random = new Random(seed);
        this.crowd = 40 + random.nextInt(300);
    }

    /** The document promises nothing of a desk behind its 512th call. */
    private void play() {
        while (seed % 8 == 0 && model.now < LATE) {
            both("run", new int[] {Math.min(500, LATE - model.now)}, a -> desk.run(a[0]), a -> model.run(a[0]));
        }
        while (calls + CALLS_OF_A_STEP <= CALLS) {
            step();
            if (random.nextInt(3) == 0) {
                calls++;
                Check.same("seed " + seed + ", call " + calls + ": digest()", desk.digest(), model.digest());
            }
        }
    }

    /** A number of the range, now and then one about its ends, seldom one far off. */
    private int number(int least, int greatest) {
        int kind = random.nextInt(60);
        if (kind == 0) {
            return least - 1;
        }
        if (kind == 1) {
            return greatest + 1;
        }
        if (kind == 2) {
            return random.nextInt();
        }
        return kind < 8 ? least : kind < 14 ? greatest : least + random.nextInt(Math.max(1, greatest - least + 1));
    }

    private void step() {
        int kind = random.nextInt(calls < 60 ? 60 : 100);
        if (kind < 40) {
            build();
        } else if (kind < 85) {
            choose();
        } else {
            happen();
        }
    }

    private void build() {
        int[] n = new int[4];
        switch (random.nextInt(9)) {
            case 0:
                n = new int[] {number(1, 15) | random.nextInt(16), number(0, 30), number(1, 100)};
                both("addAntenna", n, a -> desk.addAntenna(a[0], a[1], a[2]),
                        a -> model.addAntenna(a[0], a[1], a[2]));
                break;
            case 1:
                n = new int[] {number(0, 3), number(1, 9), number(0, 50), number(1, random.nextBoolean() ? 300 : 100000)};
                both("addSatellite", n, a -> desk.addSatellite(a[0], a[1], a[2], a[3]),
                        a -> model.addSatellite(a[0], a[1], a[2], a[3]));
                break;
            case 2:
                int from = number(model.now, model.now + crowd);
                n = new int[] {number(0, model.antennas.size() - 1), from, from + number(1, 20)};
                both("addOutage", n, a -> desk.addOutage(a[0], a[1], a[2]),
                        a -> model.addOutage(a[0], a[1], a[2]));
                break;
            case 3:
                n = new int[] {number(0, 60)};
                both("setHandover", n, a -> desk.setHandover(a[0]), a -> model.setHandover(a[0]));
                break;
            case 4:
                n = new int[] {number(0, 2)};
                both("count", n, a -> desk.count(a[0]), a -> model.count(a[0]));
                break;
            default:
                int begin = number(model.now, model.now + crowd);
                int longest = random.nextInt(10) == 0 ? 600 : 60;
                // Passes of few lengths and begins have many sets of the same weight, and ends that meet begins.
                int end = seed % 3 == 0 ? begin + 10 * number(1, 2) : begin + number(1, longest);
                begin -= seed % 3 == 0 && begin > model.now + 5 ? begin % 5 : 0;
                n = new int[] {number(0, model.satellites.size() - 1), number(0, model.antennas.size() - 1), begin, end};
                both("addPass", n, a -> desk.addPass(a[0], a[1], a[2], a[3]),
                        a -> model.addPass(a[0], a[1], a[2], a[3]));
                break;
        }
    }

    private void choose() {
        int last = model.passes.size() - 1;
        int[] pass = {number(0, last)};
        int set = random.nextInt(1 << model.passes.size());
        int[] sets = {random.nextInt(10) == 0 ? number(0, 1 << model.passes.size()) : set & random.nextInt(65536)};
        switch (random.nextInt(9)) {
            case 0:
                both("isConflict", new int[] {number(0, last), number(0, last)},
                        a -> desk.isConflict(a[0], a[1]) ? 1 : 0, a -> model.isConflict(a[0], a[1]) ? 1 : 0);
                break;
            case 1:
                both("canTake", pass, a -> desk.canTake(a[0]) ? 1 : 0, a -> model.canTake(a[0]) ? 1 : 0);
                break;
            case 2:
            case 3:
                both("best", new int[0], a -> desk.best(), a -> model.best());
                if (random.nextInt(4) == 0) {
                    int[] best = {model.best() & random.nextInt(65536)};
                    both("take", best, a -> desk.take(a[0]), a -> model.take(a[0]));
                }
                break;
            case 4:
                both("weight", sets, a -> desk.weight(a[0]), a -> model.weight(a[0]));
                break;
            case 5:
                both("take", new int[] {random.nextBoolean() ? sets[0] : 1 << random.nextInt(17)},
                        a -> desk.take(a[0]), a -> model.take(a[0]));
                break;
            case 6:
                both("giveUp", pass, a -> desk.giveUp(a[0]), a -> model.giveUp(a[0]));
                break;
            case 7:
                both("taken", new int[0], a -> desk.taken(), a -> model.taken());
                break;
            default:
                both("handovers", new int[] {number(0, model.satellites.size() - 1)},
                        a -> desk.handovers(a[0]), a -> model.handovers(a[0]));
                break;
        }
    }

    private void happen() {
        int[] what = {number(0, 4), number(0, 7)};
        switch (random.nextInt(6)) {
            case 0:
            case 1:
                both("run", new int[] {random.nextInt(12) == 0 ? number(1, 500) : 1 + random.nextInt(8)},
                        a -> desk.run(a[0]), a -> model.run(a[0]));
                break;
            case 2:
                both("share", new int[0], a -> desk.share(), a -> model.share());
                break;
            case 3:
                both("antenna", what, a -> desk.antenna(a[0], a[1]), a -> model.antenna(a[0], a[1]));
                break;
            case 4:
                both("satellite", what, a -> desk.satellite(a[0], a[1]), a -> model.satellite(a[0], a[1]));
                break;
            default:
                both("pass", what, a -> desk.pass(a[0], a[1]), a -> model.pass(a[0], a[1]));
                break;
        }
    }

    private interface Made {
        double make(int[] numbers);
    }

    private void both(String name, int[] numbers, Made got, Made due) {
        calls++;
        Check.same("seed " + seed + ", call " + calls + ": " + name + java.util.Arrays.toString(numbers),
                answer(() -> got.make(numbers)), answer(() -> due.make(numbers)));
    }

    private static String answer(Answer answer) {
        try {
            return String.valueOf(answer.get());
        } catch (RuntimeException e) {
            return "throws." + Check.nameOf(e);
        }
    }

    /** Rows of numbers: antennas {bands, setUp, rate, down}, passes {satellite, antenna, begin, end, taken, down}. */
    private static final class Model {
        final List<int[]> antennas = new ArrayList<>();
        /** {band, priority, gathers, memory, units, lost, down, gathered} */
        final List<int[]> satellites = new ArrayList<>();
        final List<int[]> passes = new ArrayList<>();
        final List<int[]> outages = new ArrayList<>();
        int now = 0;
        int handover = 5;

        static void argument(boolean wrong) {
            if (wrong) {
                throw new IllegalArgumentException();
            }
        }

        static void state(boolean wrong) {
            if (wrong) {
                throw new IllegalStateException();
            }
        }

        static void index(int number, int size) {
            if (number < 0 || number >= size) {
                throw new IndexOutOfBoundsException();
            }
        }

        int addAntenna(int bands, int setUp, int rate) {
            argument(bands < 1 || bands > 15 || setUp < 0 || setUp > 30 || rate < 1 || rate > 100);
            state(antennas.size() == 5);
            antennas.add(new int[] {bands, setUp, rate, 0});
            return antennas.size() - 1;
        }

        int addSatellite(int band, int priority, int gathers, int memory) {
            argument(band < 0 || band > 3 || priority < 1 || priority > 9 || gathers < 0 || gathers > 50
                    || memory < 1 || memory > 100000);
            state(satellites.size() == 8);
            satellites.add(new int[] {band, priority, gathers, memory, 0, 0, 0, 0});
            return satellites.size() - 1;
        }

        int addPass(int satellite, int antenna, int begin, int end) {
            index(satellite, satellites.size());
            index(antenna, antennas.size());
            argument(begin < now || end <= begin || end > begin + 600L || end > 9999);
            argument((antennas.get(antenna)[0] >> satellites.get(satellite)[0] & 1) == 0);
            state(passes.size() == 16);
            passes.add(new int[] {satellite, antenna, begin, end, 0, 0});
            return passes.size() - 1;
        }

        int addOutage(int antenna, int from, int to) {
            index(antenna, antennas.size());
            argument(from < now || to <= from || to > 9999);
            state(outages.size() == 6);
            outages.add(new int[] {antenna, from, to});
            int found = 0;
            for (int[] p : passes) {
                if (p[4] == 1 && p[1] == antenna && common(p[2], p[3], from, to) > 0) {
                    found++;
                }
            }
            return found;
        }

        int setHandover(int minutes) {
            argument(minutes < 0 || minutes > 60);
            int before = handover;
            handover = minutes;
            return before;
        }

        int count(int what) {
            index(what, 3);
            return what == 0 ? antennas.size() : what == 1 ? satellites.size() : passes.size();
        }

        static int common(int begin, int end, int from, int to) {
            int minutes = 0;
            for (int m = begin; m < end; m++) {
                if (m >= from && m < to) {
                    minutes++;
                }
            }
            return minutes;
        }

        int pass(int pass, int what) {
            index(pass, passes.size());
            index(what, 8);
            int[] p = passes.get(pass);
            int[] told = {p[0], p[1], p[2], p[3], weight(1 << pass), p[4], p[5], p[4] == 1 ? start(pass) : -1};
            return told[what];
        }

        boolean earlier(int a, int b) {
            return passes.get(a)[2] < passes.get(b)[2] || passes.get(a)[2] == passes.get(b)[2] && a < b;
        }

        boolean isConflict(int a, int b) {
            index(a, passes.size());
            index(b, passes.size());
            argument(a == b);
            int[] first = passes.get(earlier(a, b) ? a : b);
            int[] second = passes.get(earlier(a, b) ? b : a);
            if (first[1] == second[1]) {
                return second[2] < first[3] + antennas.get(first[1])[1];
            }
            return first[0] == second[0]
                    && (!(second[3] > first[3]) || common(first[2], first[3], second[2], second[3]) > handover);
        }

        boolean out(int antenna, int minute) {
            for (int[] o : outages) {
                if (o[0] == antenna && o[1] <= minute && minute < o[2]) {
                    return true;
                }
            }
            return false;
        }

        boolean canTake(int pass) {
            index(pass, passes.size());
            int[] p = passes.get(pass);
            if (p[4] == 1 || p[2] < now) {
                return false;
            }
            for (int m = p[2]; m < p[3]; m++) {
                if (out(p[1], m)) {
                    return false;
                }
            }
            for (int other = 0; other < passes.size(); other++) {
                if (passes.get(other)[4] == 1 && isConflict(pass, other)) {
                    return false;
                }
            }
            return true;
        }

        int best() {
            int count = passes.size();
            int free = 0;
            int[] against = new int[count];
            for (int a = 0; a < count; a++) {
                free |= canTake(a) ? 1 << a : 0;
                for (int b = 0; b < count; b++) {
                    against[a] |= a != b && isConflict(a, b) ? 1 << b : 0;
                }
            }
            int best = 0;
            int most = 0;
            for (int set = 1; set < 1 << count; set++) {
                if ((set & ~free) != 0 || !apart(set, against)) {
                    continue;
                }
                int weight = weight(set);
                if (weight > most || weight == most && Integer.bitCount(set) < Integer.bitCount(best)) {
                    best = set;
                    most = weight;
                }
            }
            return best;
        }

        static boolean apart(int set, int[] against) {
            for (int a = 0; a < against.length; a++) {
                if ((set >> a & 1) == 1 && (set & against[a]) != 0) {
                    return false;
                }
            }
            return true;
        }

        int weight(int set) {
            argument(set < 0 || set >= 1 << passes.size());
            int sum = 0;
            for (int a = 0; a < passes.size(); a++) {
                int[] p = passes.get(a);
                sum += (set >> a & 1) * satellites.get(p[0])[1] * (p[3] - p[2]);
            }
            return sum;
        }

        int take(int set) {
            weight(set);
            for (int a = 0; a < passes.size(); a++) {
                state((set >> a & 1) == 1 && !canTake(a));
                for (int b = 0; b < a; b++) {
                    state((set >> a & 1) == 1 && (set >> b & 1) == 1 && isConflict(a, b));
                }
            }
            for (int a = 0; a < passes.size(); a++) {
                passes.get(a)[4] |= set >> a & 1;
            }
            return taken();
        }

        int giveUp(int pass) {
            index(pass, passes.size());
            state(passes.get(pass)[4] == 0 || passes.get(pass)[2] < now);
            passes.get(pass)[4] = 0;
            return taken();
        }

        int taken() {
            int set = 0;
            for (int a = 0; a < passes.size(); a++) {
                set += passes.get(a)[4] << a;
            }
            return set;
        }

        int start(int pass) {
            int[] p = passes.get(pass);
            int last = -1;
            for (int a = 0; a < passes.size(); a++) {
                int[] o = passes.get(a);
                if (a != pass && o[4] == 1 && o[0] == p[0] && earlier(a, pass) && o[3] > p[2] && o[3] > last) {
                    last = o[3];
                }
            }
            return last < 0 ? p[2] : last;
        }

        int handovers(int satellite) {
            index(satellite, satellites.size());
            int found = 0;
            for (int a = 0; a < passes.size(); a++) {
                if (passes.get(a)[0] == satellite && passes.get(a)[4] == 1 && start(a) != passes.get(a)[2]) {
                    found++;
                }
            }
            return found;
        }

        boolean heard(int pass) {
            return passes.get(pass)[4] == 1 && start(pass) <= now && now < passes.get(pass)[3];
        }

        int run(int minutes) {
            argument(minutes < 1 || minutes > 500);
            state(now + minutes > 9999);
            int all = 0;
            for (int i = 0; i < minutes; i++) {
                for (int[] s : satellites) {
                    s[7] += s[2];
                    for (int unit = 0; unit < s[2]; unit++) {
                        s[s[4] < s[3] ? 4 : 5]++;
                    }
                }
                for (int a = 0; a < passes.size(); a++) {
                    int[] p = passes.get(a);
                    if (heard(a) && !out(p[1], now)) {
                        all += bringDown(p, antennas.get(p[1]), satellites.get(p[0]));
                    }
                }
                now++;
            }
            return all;
        }

        static int bringDown(int[] p, int[] antenna, int[] satellite) {
            int some = antenna[2] < satellite[4] ? antenna[2] : satellite[4];
            satellite[4] -= some;
            satellite[6] += some;
            antenna[3] += some;
            p[5] += some;
            return some;
        }

        int satellite(int satellite, int what) {
            index(satellite, satellites.size());
            index(what, 4);
            int[] s = satellites.get(satellite);
            return what < 3 ? s[4 + what] : full(s);
        }

        int full(int[] s) {
            if (s[4] == s[3] || s[2] == 0) {
                return -1;
            }
            int minute = now;
            for (int units = s[4] + s[2]; units < s[3]; units += s[2]) {
                minute++;
            }
            return minute;
        }

        int antenna(int antenna, int what) {
            index(antenna, antennas.size());
            index(what, 4);
            int heard = -1;
            int next = -1;
            for (int a = passes.size() - 1; a >= 0; a--) {
                int[] p = passes.get(a);
                if (p[1] == antenna && p[4] == 1) {
                    heard = heard(a) ? a : heard;
                    next = p[2] >= now && (next < 0 || earlier(a, next)) ? a : next;
                }
            }
            int[] told = {heard, next, out(antenna, now) ? 1 : 0, antennas.get(antenna)[3]};
            return told[what];
        }

        double share() {
            int down = 0;
            int gathered = 0;
            for (int[] s : satellites) {
                down += s[6];
                gathered += s[7];
            }
            return gathered == 0 ? 1 : (double) down / gathered;
        }

        long digest() {
            long d = 227;
            d = d * 31 + now;
            d = d * 31 + handover;
            d = d * 31 + antennas.size();
            for (int i = 0; i < antennas.size() * 4; i++) {
                d = d * 31 + antenna(i / 4, i % 4);
            }
            d = d * 31 + satellites.size();
            for (int i = 0; i < satellites.size() * 4; i++) {
                d = d * 31 + satellite(i / 4, i % 4);
            }
            d = d * 31 + passes.size();
            for (int i = 0; i < passes.size() * 8; i++) {
                d = d * 31 + pass(i / 8, i % 8);
            }
            return d;
        }
    }
}

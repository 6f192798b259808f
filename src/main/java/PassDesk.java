import java.util.ArrayList;

/** A desk for passes of satellites. */
public final class PassDesk {
    private static final int MAX_ANTENNAS = 5;
    private static final int MAX_SATELLITES = 8;
    private static final int MAX_PASSES = 16;
    private static final int MAX_OUTAGES = 6;

    private static final int ALL_BANDS = 15;
    private static final int LAST_BAND = 3;
    private static final int MAX_SET_UP = 30;
    private static final int MAX_RATE = 100;
    private static final int MAX_PRIORITY = 9;
    private static final int MAX_GATHERS = 50;
    private static final int MAX_MEMORY = 100000;
    private static final int MAX_PASS_MINUTES = 600;
    private static final int MAX_HANDOVER = 60;
    private static final int FIRST_HANDOVER = 5;
    private static final int MAX_RUN = 500;
    private static final int LAST_MINUTE = 9999;

    private static final int ANTENNA_FACTS = 4;
    private static final int SATELLITE_FACTS = 4;
    private static final int PASS_FACTS = 8;
    private static final int NONE = -1;

    private static final long DIGEST_START = 227;
    private static final long DIGEST_FACTOR = 31;

    private final ArrayList<Antenna> antennaList = new ArrayList<Antenna>();
    private final ArrayList<Satellite> satelliteList = new ArrayList<Satellite>();
    private final ArrayList<Pass> passList = new ArrayList<Pass>();
    private final ArrayList<Outage> outageList = new ArrayList<Outage>();
    private final Search search = new Search();
    private int now = 0;
    private int handover = FIRST_HANDOVER;

    public PassDesk() {
    }

    // ---- antennas, satellites and passes

    public int addAntenna(int bands, int setUp, int rate)
            throws IllegalArgumentException, IllegalStateException {
        if (!isWithin(bands, 1, ALL_BANDS) || !isWithin(setUp, 0, MAX_SET_UP) || !isWithin(rate, 1, MAX_RATE)) {
            throw new IllegalArgumentException("bands, setUp or rate is out of its range");
        }
        int number = antennaList.size();
        if (number >= MAX_ANTENNAS) {
            throw new IllegalStateException("there is no room for another antenna");
        }
        antennaList.add(new Antenna(number, bands, setUp, rate));
        return number;
    }

    public int addSatellite(int band, int priority, int gathers, int memory)
            throws IllegalArgumentException, IllegalStateException {
        if (!isWithin(band, 0, LAST_BAND) || !isWithin(priority, 1, MAX_PRIORITY)
                || !isWithin(gathers, 0, MAX_GATHERS) || !isWithin(memory, 1, MAX_MEMORY)) {
            throw new IllegalArgumentException("band, priority, gathers or memory is out of its range");
        }
        int number = satelliteList.size();
        if (number >= MAX_SATELLITES) {
            throw new IllegalStateException("there is no room for another satellite");
        }
        satelliteList.add(new Satellite(number, band, priority, gathers, memory));
        return number;
    }

    public int addPass(int satellite, int antenna, int begin, int end)
            throws IndexOutOfBoundsException, IllegalArgumentException, IllegalStateException {
        Satellite over = satelliteAt(satellite);
        Antenna by = antennaAt(antenna);
        checkSpan(begin, end);
        // The span is checked: begin and end are at most LAST_MINUTE here, so that this cannot overflow.
        if (end - begin > MAX_PASS_MINUTES) {
            throw new IllegalArgumentException("the pass is too long");
        }
        if (!contains(by.bands, over.band)) {
            throw new IllegalArgumentException("the antenna does not hear the band of the satellite");
        }
        int number = passList.size();
        if (number >= MAX_PASSES) {
            throw new IllegalStateException("there is no room for another pass");
        }
        passList.add(new Pass(number, over, by, begin, end));
        return number;
    }

    public int addOutage(int antenna, int from, int to)
            throws IndexOutOfBoundsException, IllegalArgumentException, IllegalStateException {
        Antenna of = antennaAt(antenna);
        checkSpan(from, to);
        if (outageList.size() >= MAX_OUTAGES) {
            throw new IllegalStateException("there is no room for another outage");
        }
        Outage outage = new Outage(of, from, to);
        outageList.add(outage);
        return countTakenIn(outage);
    }

    public int setHandover(int minutes) throws IllegalArgumentException {
        if (!isWithin(minutes, 0, MAX_HANDOVER)) {
            throw new IllegalArgumentException("minutes is not 0 to 60");
        }
        int before = handover;
        handover = minutes;
        return before;
    }

    public int count(int what) throws IndexOutOfBoundsException {
        switch (what) {
            case 0:
                return antennaList.size();
            case 1:
                return satelliteList.size();
            case 2:
                return passList.size();
            default:
                throw new IndexOutOfBoundsException("what is not 0 to 2");
        }
    }

    public int pass(int pass, int what) throws IndexOutOfBoundsException {
        Pass asked = passAt(pass);
        switch (what) {
            case 0:
                return asked.satellite.number;
            case 1:
                return asked.antenna.number;
            case 2:
                return asked.begin;
            case 3:
                return asked.end;
            case 4:
                return asked.worth();
            case 5:
                return asked.taken ? 1 : 0;
            case 6:
                return asked.broughtDown;
            case 7:
                return asked.taken ? startOf(asked) : NONE;
            default:
                throw new IndexOutOfBoundsException("what is not 0 to 7");
        }
    }

    // ---- choosing

    public boolean isConflict(int a, int b) throws IndexOutOfBoundsException, IllegalArgumentException {
        Pass one = passAt(a);
        Pass other = passAt(b);
        if (a == b) {
            throw new IllegalArgumentException("a and b are the same pass");
        }
        return areInConflict(one, other);
    }

    public boolean canTake(int pass) throws IndexOutOfBoundsException {
        return isFree(passAt(pass));
    }

    public int best() {
        int free = prepareSearch();
        searchFrom(search, 0, 0, free, 0);
        return search.bestSet;
    }

    public int weight(int passes) throws IllegalArgumentException {
        checkSet(passes);
        int sum = 0;
        for (int i = 0; i < passList.size(); i++) {
            if (contains(passes, i)) {
                sum += passList.get(i).worth();
            }
        }
        return sum;
    }

    public int take(int passes) throws IllegalArgumentException, IllegalStateException {
        checkSet(passes);
        if (!areFreeTogether(passes)) {
            throw new IllegalStateException("the passes cannot be taken together");
        }
        for (int i = 0; i < passList.size(); i++) {
            if (contains(passes, i)) {
                passList.get(i).taken = true;
            }
        }
        return takenSet();
    }

    public int giveUp(int pass) throws IndexOutOfBoundsException, IllegalStateException {
        Pass given = passAt(pass);
        if (!given.taken || given.begin < now) {
            throw new IllegalStateException("the pass is OPEN, or it began before now");
        }
        given.taken = false;
        return takenSet();
    }

    public int taken() {
        return takenSet();
    }

    public int handovers(int satellite) throws IndexOutOfBoundsException {
        Satellite asked = satelliteAt(satellite);
        int found = 0;
        for (int i = 0; i < passList.size(); i++) {
            Pass pass = passList.get(i);
            if (pass.satellite == asked && pass.taken && startOf(pass) != pass.begin) {
                found++;
            }
        }
        return found;
    }

    // ---- what happens

    public int run(int minutes) throws IllegalArgumentException, IllegalStateException {
        if (!isWithin(minutes, 1, MAX_RUN)) {
            throw new IllegalArgumentException("minutes is not 1 to 500");
        }
        if (now + minutes > LAST_MINUTE) {
            throw new IllegalStateException("it would be later than minute 9999");
        }
        int cameDown = 0;
        for (int i = 0; i < minutes; i++) {
            gatherEverywhere();
            cameDown += bringDownEverywhere();
            now++;
        }
        return cameDown;
    }

    public int now() {
        return now;
    }

    public int satellite(int satellite, int what) throws IndexOutOfBoundsException {
        Satellite asked = satelliteAt(satellite);
        switch (what) {
            case 0:
                return asked.units;
            case 1:
                return asked.lost;
            case 2:
                return asked.cameDown;
            case 3:
                return minuteOfFull(asked);
            default:
                throw new IndexOutOfBoundsException("what is not 0 to 3");
        }
    }

    public int antenna(int antenna, int what) throws IndexOutOfBoundsException {
        Antenna asked = antennaAt(antenna);
        switch (what) {
            case 0:
                return heardOver(asked);
            case 1:
                return nextOver(asked);
            case 2:
                return isOut(asked, now, now + 1) ? 1 : 0;
            case 3:
                return asked.broughtDown;
            default:
                throw new IndexOutOfBoundsException("what is not 0 to 3");
        }
    }

    public double share() {
        int gathered = 0;
        int cameDown = 0;
        for (int i = 0; i < satelliteList.size(); i++) {
            gathered += satelliteList.get(i).gathered();
            cameDown += satelliteList.get(i).cameDown;
        }
        if (gathered == 0) {
            return 1.0;
        }
        return (double) cameDown / (double) gathered;
    }

    public long digest() {
        long d = mix(mix(DIGEST_START, now), handover);
        d = mix(d, antennaList.size());
        for (int i = 0; i < antennaList.size(); i++) {
            for (int what = 0; what < ANTENNA_FACTS; what++) {
                d = mix(d, antenna(i, what));
            }
        }
        d = mix(d, satelliteList.size());
        for (int i = 0; i < satelliteList.size(); i++) {
            for (int what = 0; what < SATELLITE_FACTS; what++) {
                d = mix(d, satellite(i, what));
            }
        }
        d = mix(d, passList.size());
        for (int i = 0; i < passList.size(); i++) {
            for (int what = 0; what < PASS_FACTS; what++) {
                d = mix(d, pass(i, what));
            }
        }
        return d;
    }

    // ---- arguments

    private static boolean isWithin(int number, int least, int greatest) {
        return number >= least && number <= greatest;
    }

    private static boolean contains(int set, int number) {
        return (set & (1 << number)) != 0;
    }

    private void checkSpan(int from, int to) {
        if (from < now || to <= from || to > LAST_MINUTE) {
            throw new IllegalArgumentException("these are no minutes from now on, up to minute 9999");
        }
    }

    private void checkSet(int passes) {
        // What is left is what stands from the number of passes on: a negative number leaves its sign at least.
        if (passes >>> passList.size() != 0) {
            throw new IllegalArgumentException("the set contains something that is no pass");
        }
    }

    private Antenna antennaAt(int number) {
        if (number < 0 || number >= antennaList.size()) {
            throw new IndexOutOfBoundsException("there is no such antenna");
        }
        return antennaList.get(number);
    }

    private Satellite satelliteAt(int number) {
        if (number < 0 || number >= satelliteList.size()) {
            throw new IndexOutOfBoundsException("there is no such satellite");
        }
        return satelliteList.get(number);
    }

    private Pass passAt(int number) {
        if (number < 0 || number >= passList.size()) {
            throw new IndexOutOfBoundsException("there is no such pass");
        }
        return passList.get(number);
    }

    // ---- passes among one another

    private boolean areInConflict(Pass a, Pass b) {
        Pass earlier = a.isEarlierThan(b) ? a : b;
        Pass later = earlier == a ? b : a;
        if (a.antenna == b.antenna) {
            return later.begin < earlier.end + a.antenna.setUp;
        }
        if (a.satellite != b.satellite) {
            return false;
        }
        return later.end <= earlier.end || earlier.end - later.begin > handover;
    }

    private boolean isFree(Pass pass) {
        return !pass.taken && pass.begin >= now
                && !isOut(pass.antenna, pass.begin, pass.end) && !isInConflictWithTaken(pass);
    }

    private boolean isInConflictWithTaken(Pass pass) {
        for (int i = 0; i < passList.size(); i++) {
            Pass other = passList.get(i);
            if (other != pass && other.taken && areInConflict(pass, other)) {
                return true;
            }
        }
        return false;
    }

    private boolean areFreeTogether(int set) {
        for (int i = 0; i < passList.size(); i++) {
            if (contains(set, i)) {
                Pass pass = passList.get(i);
                if (!isFree(pass) || (conflictsOf(pass) & set) != 0) {
                    return false;
                }
            }
        }
        return true;
    }

    private int conflictsOf(Pass pass) {
        int set = 0;
        for (int i = 0; i < passList.size(); i++) {
            Pass other = passList.get(i);
            if (other != pass && areInConflict(pass, other)) {
                set |= 1 << i;
            }
        }
        return set;
    }

    private int takenSet() {
        int set = 0;
        for (int i = 0; i < passList.size(); i++) {
            if (passList.get(i).taken) {
                set |= 1 << i;
            }
        }
        return set;
    }

    private int startOf(Pass pass) {
        int start = pass.begin;
        for (int i = 0; i < passList.size(); i++) {
            Pass other = passList.get(i);
            if (other.taken && other.satellite == pass.satellite && other.isEarlierThan(pass)) {
                start = Math.max(start, other.end);
            }
        }
        return start;
    }

    private boolean isHeard(Pass pass) {
        return pass.taken && pass.begin <= now && now < pass.end && startOf(pass) <= now;
    }

    // ---- the best set

    /** Puts the weights and conflicts of now into the search; returns the set of the passes that can be taken. */
    private int prepareSearch() {
        int free = 0;
        for (int i = 0; i < passList.size() && i < MAX_PASSES; i++) {
            Pass pass = passList.get(i);
            search.weights[i] = pass.worth();
            search.conflicts[i] = conflictsOf(pass);
            if (isFree(pass)) {
                free |= 1 << i;
            }
        }
        search.bestSet = 0;
        search.bestWeight = 0;
        return free;
    }

    /** Tries all sets that hold chosen and some of left; pass is the depth, too, and left holds none below it. */
    private static void searchFrom(Search search, int pass, int chosen, int left, int weight) {
        if (left == 0 || pass < 0 || pass >= MAX_PASSES) {
            search.offer(chosen, weight);
            return;
        }
        // A set of the same weight may still have fewer passes, so that only a smaller weight ends the search here.
        if (weight + search.weightOf(left) < search.bestWeight) {
            return;
        }
        int others = left & ~(1 << pass);
        if (contains(left, pass)) {
            searchFrom(search, pass + 1, chosen | (1 << pass), others & ~search.conflicts[pass],
                    weight + search.weights[pass]);
            // Each weight is at least 1: a pass that is in no other one's way is in every best set.
            if ((others & search.conflicts[pass]) == 0) {
                return;
            }
        }
        searchFrom(search, pass + 1, chosen, others, weight);
    }

    // ---- minutes and outages

    private void gatherEverywhere() {
        for (int i = 0; i < satelliteList.size(); i++) {
            satelliteList.get(i).gather();
        }
    }

    private int bringDownEverywhere() {
        int sum = 0;
        for (int i = 0; i < passList.size(); i++) {
            Pass pass = passList.get(i);
            if (isHeard(pass) && !isOut(pass.antenna, now, now + 1)) {
                sum += pass.bringDown();
            }
        }
        return sum;
    }

    private boolean isOut(Antenna antenna, int from, int to) {
        for (int i = 0; i < outageList.size(); i++) {
            Outage outage = outageList.get(i);
            if (outage.antenna == antenna && outage.meets(from, to)) {
                return true;
            }
        }
        return false;
    }

    private int countTakenIn(Outage outage) {
        int found = 0;
        for (int i = 0; i < passList.size(); i++) {
            Pass pass = passList.get(i);
            if (pass.antenna == outage.antenna && pass.taken && outage.meets(pass.begin, pass.end)) {
                found++;
            }
        }
        return found;
    }

    // ---- what is told

    private int minuteOfFull(Satellite satellite) {
        int room = satellite.memory - satellite.units;
        if (room <= 0 || satellite.gathers <= 0) {
            return NONE;
        }
        // It is full behind the n-th minute, n being room / gathers rounded up; now is the first, so that is now + n - 1.
        return now + (room - 1) / satellite.gathers;
    }

    private int heardOver(Antenna antenna) {
        for (int i = 0; i < passList.size(); i++) {
            Pass pass = passList.get(i);
            if (pass.antenna == antenna && isHeard(pass)) {
                return i;
            }
        }
        return NONE;
    }

    private int nextOver(Antenna antenna) {
        int next = NONE;
        int first = LAST_MINUTE;
        for (int i = 0; i < passList.size(); i++) {
            Pass pass = passList.get(i);
            if (pass.antenna == antenna && pass.taken && pass.begin >= now && pass.begin < first) {
                next = i;
                first = pass.begin;
            }
        }
        return next;
    }

    private static long mix(long d, long x) {
        return d * DIGEST_FACTOR + x;
    }

    private static final class Antenna {
        final int number;
        final int bands;
        final int setUp;
        final int rate;
        int broughtDown = 0;

        Antenna(int number, int bands, int setUp, int rate) {
            this.number = number;
            this.bands = bands;
            this.setUp = setUp;
            this.rate = rate;
        }
    }

    private static final class Satellite {
        final int number;
        final int band;
        final int priority;
        final int gathers;
        final int memory;
        int units = 0;
        int lost = 0;
        int cameDown = 0;

        Satellite(int number, int band, int priority, int gathers, int memory) {
            this.number = number;
            this.band = band;
            this.priority = priority;
            this.gathers = gathers;
            this.memory = memory;
        }

        void gather() {
            int kept = Math.min(gathers, memory - units);
            units += kept;
            lost += gathers - kept;
        }

        /** Each unit that was gathered is kept, or lost, or came down. */
        int gathered() {
            return units + lost + cameDown;
        }
    }

    private static final class Pass {
        final int number;
        final Satellite satellite;
        final Antenna antenna;
        final int begin;
        final int end;
        boolean taken = false;
        int broughtDown = 0;

        Pass(int number, Satellite satellite, Antenna antenna, int begin, int end) {
            this.number = number;
            this.satellite = satellite;
            this.antenna = antenna;
            this.begin = begin;
            this.end = end;
        }

        int worth() {
            return satellite.priority * (end - begin);
        }

        boolean isEarlierThan(Pass other) {
            return begin == other.begin ? number < other.number : begin < other.begin;
        }

        int bringDown() {
            int some = Math.min(antenna.rate, satellite.units);
            satellite.units -= some;
            satellite.cameDown += some;
            antenna.broughtDown += some;
            broughtDown += some;
            return some;
        }
    }

    private static final class Outage {
        final Antenna antenna;
        final int from;
        final int to;

        Outage(Antenna antenna, int from, int to) {
            this.antenna = antenna;
            this.from = from;
            this.to = to;
        }

        boolean meets(int begin, int end) {
            return from < end && begin < to;
        }
    }

    /** Made once for each desk: the rows are filled anew for each search, so that best() makes no objects. */
    private static final class Search {
        final int[] weights = new int[MAX_PASSES];
        final int[] conflicts = new int[MAX_PASSES];
        int bestSet;
        int bestWeight;

        int weightOf(int set) {
            int sum = 0;
            for (int i = 0; i < weights.length; i++) {
                if (contains(set, i)) {
                    sum += weights[i];
                }
            }
            return sum;
        }

        void offer(int set, int weight) {
            if (isBetter(set, weight)) {
                bestSet = set;
                bestWeight = weight;
            }
        }

        private boolean isBetter(int set, int weight) {
            if (weight != bestWeight) {
                return weight > bestWeight;
            }
            int passes = Integer.bitCount(set);
            int bestPasses = Integer.bitCount(bestSet);
            return passes == bestPasses ? set < bestSet : passes < bestPasses;
        }
    }
}

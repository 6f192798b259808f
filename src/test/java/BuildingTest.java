/** Promises 1 to 8: a new desk, its antennas, satellites, passes and outages. */
public final class BuildingTest {
    public static void main(String[] args) {
        promise1NewDesk();
        promise2AddAntenna();
        promise2AntennaRanges();
        promise3AddSatellite();
        promise3SatelliteRanges();
        promise4AddPass();
        promise4PassRanges();
        promise4OrderOfExceptions();
        promise5AddOutage();
        promise5OutageRanges();
        promise6SetHandover();
        promise7Count();
        promise8Pass();
        Check.end();
    }

    private static void promise1NewDesk() {
        PassDesk desk = new PassDesk();
        Check.same("new now()", desk.now(), 0);
        for (int what = 0; what < 3; what++) {
            Check.same("new count(" + what + ")", desk.count(what), 0);
        }
        Check.same("new best()", desk.best(), 0);
        Check.same("new taken()", desk.taken(), 0);
        Check.same("new share()", desk.share(), 1.0);
        // 227, then minute 0, handover 5 and three times 0
        Check.same("new digest()", desk.digest(), (((227L * 31) * 31 + 5) * 31 * 31) * 31);
        Check.same("new setHandover(5)", desk.setHandover(5), 5);
        PassDesk other = new PassDesk();
        other.addAntenna(1, 0, 1);
        other.run(3);
        Check.same("desks are apart: count", desk.count(0), 0);
        Check.same("desks are apart: now", desk.now(), 0);
    }

    private static void promise2AddAntenna() {
        PassDesk desk = new PassDesk();
        Check.same("addAntenna least", desk.addAntenna(1, 0, 1), 0);
        Check.same("addAntenna greatest", desk.addAntenna(15, 30, 100), 1);
        for (int i = 2; i < 5; i++) {
            Check.same("addAntenna " + i, desk.addAntenna(4, 3, 2), i);
        }
        Check.same("antennas", desk.count(0), 5);
        Check.failsWithout("addAntenna the sixth", Check.STATE, desk, () -> desk.addAntenna(1, 0, 1));
        Check.failsWithout("addAntenna the sixth, wrong", Check.ARGUMENT, desk, () -> desk.addAntenna(0, 0, 1));
        Check.same("antennas still", desk.count(0), 5);
        for (int what = 0; what < 4; what++) {
            Check.same("antenna(4, " + what + ")", desk.antenna(4, what), what < 2 ? -1 : 0);
        }
    }

    private static void promise2AntennaRanges() {
        PassDesk desk = new PassDesk();
        int[][] wrong = {{0, 0, 1}, {-1, 0, 1}, {16, 0, 1}, {Integer.MIN_VALUE, 0, 1}, {Integer.MAX_VALUE, 0, 1},
            {1, -1, 1}, {1, 31, 1}, {1, Integer.MIN_VALUE, 1}, {1, Integer.MAX_VALUE, 1},
            {1, 0, 0}, {1, 0, -1}, {1, 0, 101}, {1, 0, Integer.MAX_VALUE}};
        for (int[] w : wrong) {
            Check.failsWithout("addAntenna(" + w[0] + ", " + w[1] + ", " + w[2] + ")", Check.ARGUMENT, desk,
                    () -> desk.addAntenna(w[0], w[1], w[2]));
        }
        Check.same("no antennas", desk.count(0), 0);
    }

    private static void promise3AddSatellite() {
        PassDesk desk = new PassDesk();
        Check.same("addSatellite least", desk.addSatellite(0, 1, 0, 1), 0);
        Check.same("addSatellite greatest", desk.addSatellite(3, 9, 50, 100000), 1);
        for (int i = 2; i < 8; i++) {
            Check.same("addSatellite " + i, desk.addSatellite(1, 2, 3, 4), i);
        }
        Check.same("satellites", desk.count(1), 8);
        Check.same("the memory is empty", desk.satellite(1, 0), 0);
        Check.failsWithout("addSatellite the ninth", Check.STATE, desk, () -> desk.addSatellite(0, 1, 0, 1));
        Check.failsWithout("addSatellite the ninth, wrong", Check.ARGUMENT, desk, () -> desk.addSatellite(4, 1, 0, 1));
        Check.same("satellites still", desk.count(1), 8);
    }

    private static void promise3SatelliteRanges() {
        PassDesk desk = new PassDesk();
        int[][] wrong = {{-1, 1, 0, 1}, {4, 1, 0, 1}, {Integer.MIN_VALUE, 1, 0, 1}, {Integer.MAX_VALUE, 1, 0, 1},
            {0, 0, 0, 1}, {0, 10, 0, 1}, {0, -1, 0, 1}, {0, Integer.MAX_VALUE, 0, 1},
            {0, 1, -1, 1}, {0, 1, 51, 1}, {0, 1, Integer.MIN_VALUE, 1},
            {0, 1, 0, 0}, {0, 1, 0, -1}, {0, 1, 0, 100001}, {0, 1, 0, Integer.MAX_VALUE}};
        for (int[] w : wrong) {
            Check.failsWithout("addSatellite(" + w[0] + ", " + w[1] + ", " + w[2] + ", " + w[3] + ")",
                    Check.ARGUMENT, desk, () -> desk.addSatellite(w[0], w[1], w[2], w[3]));
        }
        Check.same("no satellites", desk.count(1), 0);
    }

    private static PassDesk deskOfTwo() {
        PassDesk desk = new PassDesk();
        desk.addAntenna(5, 2, 10);
        desk.addAntenna(8, 0, 20);
        desk.addSatellite(0, 3, 4, 200);
        desk.addSatellite(3, 7, 0, 50);
        return desk;
    }

    private static void promise4AddPass() {
        PassDesk desk = deskOfTwo();
        Check.same("addPass", desk.addPass(0, 0, 0, 1), 0);
        Check.same("addPass of 600 minutes", desk.addPass(1, 1, 5, 605), 1);
        Check.same("addPass up to minute 9999", desk.addPass(0, 0, 9998, 9999), 2);
        Check.same("addPass of 600 up to 9999", desk.addPass(0, 0, 9399, 9999), 3);
        Check.same("weight of the longest", desk.pass(1, 4), 4200);
        desk.run(7);
        Check.same("addPass from now on", desk.addPass(0, 0, 7, 9), 4);
        Check.failsWithout("addPass from before now", Check.ARGUMENT, desk, () -> desk.addPass(0, 0, 6, 9));
        for (int i = 5; i < 16; i++) {
            Check.same("addPass " + i, desk.addPass(0, 0, 20, 30), i);
        }
        Check.failsWithout("addPass the 17th", Check.STATE, desk, () -> desk.addPass(0, 0, 20, 30));
        Check.same("passes", desk.count(2), 16);
        Check.same("a new pass is OPEN", desk.pass(15, 5), 0);
    }

    private static void promise4PassRanges() {
        PassDesk desk = deskOfTwo();
        int[][] wrong = {{-1, 5}, {5, 5}, {5, 4}, {0, 601}, {9399, 10000}, {9999, 10000}, {9998, 10000}, {9999, 9999},
            {Integer.MIN_VALUE, Integer.MAX_VALUE}, {Integer.MAX_VALUE, Integer.MIN_VALUE}, {0, Integer.MAX_VALUE},
            {Integer.MIN_VALUE, 1}, {Integer.MAX_VALUE - 1, Integer.MAX_VALUE}, {0, Integer.MIN_VALUE}, {0, 0}};
        for (int[] w : wrong) {
            Check.failsWithout("addPass(0, 0, " + w[0] + ", " + w[1] + ")", Check.ARGUMENT, desk,
                    () -> desk.addPass(0, 0, w[0], w[1]));
        }
        Check.failsWithout("a band that is not heard", Check.ARGUMENT, desk, () -> desk.addPass(1, 0, 0, 1));
        Check.failsWithout("a band that is not heard", Check.ARGUMENT, desk, () -> desk.addPass(0, 1, 0, 1));
        int[][] none = {{-1, 0}, {2, 0}, {0, -1}, {0, 2}, {Integer.MIN_VALUE, 0}, {0, Integer.MAX_VALUE}};
        for (int[] n : none) {
            Check.failsWithout("addPass(" + n[0] + ", " + n[1] + ", 0, 1)", Check.RANGE, desk,
                    () -> desk.addPass(n[0], n[1], 0, 1));
        }
        Check.same("no passes", desk.count(2), 0);
    }

    private static void promise4OrderOfExceptions() {
        PassDesk desk = deskOfTwo();
        for (int i = 0; i < 16; i++) {
            desk.addPass(0, 0, 1, 2);
        }
        Check.failsWithout("no satellite ahead of all", Check.RANGE, desk, () -> desk.addPass(2, 0, 5, 5));
        Check.failsWithout("no antenna ahead of all", Check.RANGE, desk, () -> desk.addPass(0, 2, 5, 5));
        Check.failsWithout("wrong minutes ahead of a full desk", Check.ARGUMENT, desk, () -> desk.addPass(0, 0, 5, 5));
        Check.failsWithout("wrong band ahead of a full desk", Check.ARGUMENT, desk, () -> desk.addPass(1, 0, 5, 6));
    }

    private static void promise5AddOutage() {
        PassDesk desk = deskOfTwo();
        desk.addPass(0, 0, 10, 20);
        desk.addPass(0, 0, 22, 30);
        desk.addPass(1, 1, 10, 30);
        desk.addPass(0, 0, 32, 40);
        Check.same("take(7)", desk.take(7), 7);
        Check.same("ahead of a pass", desk.addOutage(0, 0, 10), 0);
        Check.same("the last minute of one, the first of another", desk.addOutage(0, 19, 23), 2);
        Check.same("between two", desk.addOutage(0, 20, 22), 0);
        Check.same("behind the taken, over an OPEN one", desk.addOutage(0, 30, 9999), 0);
        Check.same("over the other antenna", desk.addOutage(1, 0, 9999), 1);
        Check.same("within one", desk.addOutage(0, 12, 13), 1);
        Check.failsWithout("the seventh", Check.STATE, desk, () -> desk.addOutage(0, 0, 1));
        Check.failsWithout("the seventh, wrong", Check.ARGUMENT, desk, () -> desk.addOutage(0, 1, 1));
        Check.failsWithout("the seventh, of none", Check.RANGE, desk, () -> desk.addOutage(2, 1, 1));
        Check.same("passes stay TAKEN", desk.taken(), 7);
    }

    private static void promise5OutageRanges() {
        PassDesk desk = deskOfTwo();
        int[][] none = {{-1, 0, 1}, {2, 0, 1}, {Integer.MIN_VALUE, 0, 1}, {Integer.MAX_VALUE, 1, 0}};
        for (int[] n : none) {
            Check.failsWithout("addOutage(" + n[0] + ", " + n[1] + ", " + n[2] + ")", Check.RANGE, desk,
                    () -> desk.addOutage(n[0], n[1], n[2]));
        }
        desk.run(4);
        int[][] wrong = {{3, 5}, {-1, 5}, {5, 5}, {5, 4}, {5, 10000}, {9999, 9999}, {9999, 10000},
            {Integer.MIN_VALUE, Integer.MAX_VALUE}, {5, Integer.MAX_VALUE}, {5, Integer.MIN_VALUE}};
        for (int[] w : wrong) {
            Check.failsWithout("addOutage(0, " + w[0] + ", " + w[1] + ")", Check.ARGUMENT, desk,
                    () -> desk.addOutage(0, w[0], w[1]));
        }
        for (int i = 0; i < 6; i++) {
            Check.same("from now on, and long", desk.addOutage(0, 4, 9999), 0);
        }
        Check.fails("the seventh", Check.STATE, () -> desk.addOutage(0, 4, 5));
    }

    private static void promise6SetHandover() {
        PassDesk desk = new PassDesk();
        Check.same("at first 5", desk.setHandover(0), 5);
        Check.same("the one before", desk.setHandover(60), 0);
        for (int wrong : new int[] {-1, 61, Integer.MIN_VALUE, Integer.MAX_VALUE}) {
            Check.failsWithout("setHandover(" + wrong + ")", Check.ARGUMENT, desk, () -> desk.setHandover(wrong));
        }
        Check.same("still the one before", desk.setHandover(7), 60);
        Check.same("the one before again", desk.setHandover(7), 7);
    }

    private static void promise7Count() {
        PassDesk desk = deskOfTwo();
        desk.addSatellite(2, 1, 1, 1);
        for (int i = 0; i < 4; i++) {
            desk.addPass(2, 0, 3, 4);
        }
        Check.same("antennas", desk.count(0), 2);
        Check.same("satellites", desk.count(1), 3);
        Check.same("passes", desk.count(2), 4);
        for (int wrong : new int[] {-1, 3, Integer.MIN_VALUE, Integer.MAX_VALUE}) {
            Check.failsWithout("count(" + wrong + ")", Check.RANGE, desk, () -> desk.count(wrong));
        }
    }

    private static void promise8Pass() {
        PassDesk desk = deskOfTwo();
        desk.addPass(1, 1, 3, 9);
        desk.addPass(0, 0, 2, 12);
        int[] due = {0, 0, 2, 12, 30, 0, 0, -1};
        for (int what = 0; what < 8; what++) {
            Check.same("pass(1, " + what + ") OPEN", desk.pass(1, what), due[what]);
        }
        int[] other = {1, 1, 3, 9, 42};
        for (int what = 0; what < 5; what++) {
            Check.same("pass(0, " + what + ")", desk.pass(0, what), other[what]);
        }
        desk.take(2);
        desk.run(3);
        due[5] = 1;
        due[6] = 10;
        due[7] = 2;
        for (int what = 0; what < 8; what++) {
            Check.same("pass(1, " + what + ") TAKEN", desk.pass(1, what), due[what]);
        }
        int[][] wrong = {{2, 0}, {-1, 0}, {0, 8}, {0, -1}, {16, 0}, {Integer.MAX_VALUE, 0}, {0, Integer.MIN_VALUE}};
        for (int[] w : wrong) {
            Check.failsWithout("pass(" + w[0] + ", " + w[1] + ")", Check.RANGE, desk, () -> desk.pass(w[0], w[1]));
        }
    }
}

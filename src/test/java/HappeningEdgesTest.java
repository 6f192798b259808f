import java.math.BigInteger;

/** A test for each sentence of the promises 17 to 22 that names a boundary case. */
public final class HappeningEdgesTest {
    public static void main(String[] args) {
        runAnswer();
        runMinutes();
        runTooLate();
        nowAnswer();
        satelliteFacts();
        satelliteFull();
        satelliteFullAlready();
        satelliteGathersNothing();
        satelliteOfNone();
        satelliteWhat();
        antennaHeard();
        antennaNext();
        antennaOutage();
        antennaUnits();
        antennaOfNone();
        antennaWhat();
        shareAnswer();
        shareOfLost();
        shareOfNothing();
        digestStart();
        digestWrapsAround();
        digestOfNegative();
        digestChangesNothing();
        Check.end();
    }

    private static void runAnswer() {
        Check.sentence("Promise 17", "Returns the units that came down in them.");
        Check.same("a new desk", new PassDesk().run(500), 0);
        Check.same("without satellites", Desks.of(5, 0).run(1), 0);
        PassDesk desk = new PassDesk();
        desk.addAntenna(1, 0, 100);
        desk.addSatellite(0, 1, 50, 100000);
        desk.addPass(0, 0, 499, 501);
        desk.take(1);
        Check.same("the last of 500 minutes", desk.run(500), 100);
        Check.same("not what came down ahead of them", desk.run(500), 100);
        Check.same("nothing any more", desk.run(500), 0);
        PassDesk most = new PassDesk();
        for (int i = 0; i < 5; i++) {
            most.addAntenna(1, 0, 100);
            most.addSatellite(0, 1, 50, 100000);
            most.addPass(i, i, 0, 500);
        }
        most.take(31);
        Check.same("the most", most.run(500), 5 * 50 * 500);
    }

    private static void runMinutes() {
        Check.sentence("Promise 17", "Throws IllegalArgumentException if minutes is not 1 to 500");
        Check.range("minutes", Check.ARGUMENT, 1, 500, PassDesk::new, (desk, minutes) -> desk.run(minutes));
        Check.range("minutes of a full desk", Check.ARGUMENT, 1, 500, Desks::busy, (desk, minutes) -> desk.run(minutes));
    }

    private static void runTooLate() {
        Check.sentence("Promise 17", "Throws IllegalStateException if it would be later than minute 9999");
        for (int minutes : new int[] {1, 2, 499, 500}) {
            PassDesk desk = Desks.at(10000 - minutes, Desks.of(1, 1));
            Check.failsWithout("run(" + minutes + ") to 10000", Check.STATE, desk, () -> desk.run(minutes));
            Check.same("no minute passed", desk.now(), 10000 - minutes);
        }
        for (int minutes : new int[] {1, 2, 499, 500}) {
            PassDesk desk = Desks.at(9999 - minutes, Desks.of(1, 1));
            Check.same("run(" + minutes + ") to 9999", desk.run(minutes), 0);
            Check.same("the last minute", desk.now(), 9999);
            Check.failsWithout("run(1) in minute 9999", Check.STATE, desk, () -> desk.run(1));
        }
    }

    private static void nowAnswer() {
        Check.sentence("Promise 18", "Returns the minute that it is.");
        PassDesk desk = new PassDesk();
        Check.same("at first", desk.now(), 0);
        desk.run(1);
        Check.same("behind run(1)", desk.now(), 1);
        desk.run(500);
        Check.same("behind run(500)", desk.now(), 501);
        Check.fails("run(0)", Check.ARGUMENT, () -> desk.run(0));
        Check.same("behind a refused run", desk.now(), 501);
        Check.same("at last", Desks.at(9999, desk).now(), 9999);
    }

    private static void satelliteFacts() {
        Check.sentence("Promise 19", "0 the units in its memory, 1 the units that it lost, 2 the units that came down "
                + "from it");
        PassDesk desk = new PassDesk();
        desk.addAntenna(1, 0, 100);
        desk.addSatellite(0, 1, 50, 1);
        desk.addPass(0, 0, 9998, 9999);
        desk.take(1);
        for (int what = 0; what < 3; what++) {
            Check.same("satellite(0, " + what + ") at first", desk.satellite(0, what), 0);
        }
        Desks.at(9998, desk);
        Check.same("its memory is full", desk.satellite(0, 0), 1);
        Check.same("nearly all is lost", desk.satellite(0, 1), 9998 * 50 - 1);
        Check.same("nothing came down", desk.satellite(0, 2), 0);
        desk.run(1);
        Check.same("its memory is empty", desk.satellite(0, 0), 0);
        Check.same("the most that can be lost", desk.satellite(0, 1), 9999 * 50 - 1);
        Check.same("one came down", desk.satellite(0, 2), 1);
    }

    private static void satelliteFull() {
        Check.sentence("Promise 19", "3 the minute behind which its memory would be full, if nothing came down any more");
        int[][] due = {{1, 1, 0}, {50, 1, 0}, {50, 50, 0}, {50, 51, 1}, {50, 100, 1}, {1, 100, 99}, {3, 10, 3},
            {3, 9, 2}, {1, 100000, 99999}, {50, 100000, 1999}};
        for (int[] satellite : due) {
            PassDesk desk = new PassDesk();
            desk.addSatellite(0, 1, satellite[0], satellite[1]);
            String what = satellite[0] + " a minute of " + satellite[1];
            Check.same(what, desk.satellite(0, 3), satellite[2]);
            if (satellite[2] < 9999) {
                Desks.at(satellite[2], desk);
                Check.same(what + " is not full ahead of it", desk.satellite(0, 0) < satellite[1], true);
                Check.same(what + " in that minute", desk.satellite(0, 3), satellite[2]);
                desk.run(1);
                Check.same(what + " is full behind it", desk.satellite(0, 0), satellite[1]);
            }
        }
        PassDesk late = Desks.at(9999, new PassDesk());
        late.addSatellite(0, 1, 1, 100000);
        Check.same("behind the last minute", late.satellite(0, 3), 9999 + 99999);
        PassDesk heard = new PassDesk();
        heard.addAntenna(1, 0, 100);
        heard.addSatellite(0, 1, 10, 100);
        heard.addPass(0, 0, 0, 600);
        heard.take(1);
        Check.same("though all of it comes down", heard.satellite(0, 3), 9);
        heard.run(5);
        Check.same("and did", heard.satellite(0, 3), 14);
    }

    private static void satelliteFullAlready() {
        Check.sentence("Promise 19", "-1 if it is full");
        PassDesk desk = new PassDesk();
        desk.addAntenna(1, 0, 1);
        desk.addSatellite(0, 1, 5, 10);
        desk.addPass(0, 0, 4, 5);
        desk.take(1);
        int[] due = {1, 1, -1, -1, -1, 5, -1, -1};
        for (int minute = 0; minute < due.length; minute++) {
            Check.same("in minute " + minute, desk.satellite(0, 3), due[minute]);
            desk.run(1);
        }
    }

    private static void satelliteGathersNothing() {
        Check.sentence("Promise 19", "or gathers nothing");
        PassDesk desk = new PassDesk();
        desk.addSatellite(0, 1, 0, 1);
        desk.addSatellite(3, 9, 0, 100000);
        for (int i = 0; i < 2; i++) {
            Check.same("satellite 0", desk.satellite(0, 3), -1);
            Check.same("satellite 1", desk.satellite(1, 3), -1);
            desk.run(500);
        }
    }

    private static void satelliteOfNone() {
        Check.sentence("Promise 19", "Throws IndexOutOfBoundsException if there is no such satellite");
        Check.range("satellite of 3", Check.RANGE, 0, 2, () -> Desks.of(5, 3), (desk, number) -> desk.satellite(number, 0));
        Check.range("satellite of 8", Check.RANGE, 0, 7, () -> Desks.of(5, 8), (desk, number) -> desk.satellite(number, 3));
        PassDesk desk = Desks.of(5, 0);
        Check.failsWithout("satellite of none", Check.RANGE, desk, () -> desk.satellite(0, 0));
    }

    private static void satelliteWhat() {
        Check.sentence("Promise 19", "or what is not 0 to 3");
        Check.range("what", Check.RANGE, 0, 3, () -> Desks.of(1, 8), (desk, what) -> desk.satellite(0, what));
    }

    private static void antennaHeard() {
        Check.sentence("Promise 20", "0 the pass over it that is heard in this minute, -1 if there is none");
        PassDesk desk = Desks.of(2, 1);
        Check.same("without passes", desk.antenna(0, 0), -1);
        desk.addPass(0, 1, 2, 4);
        desk.addPass(0, 0, 0, 2);
        desk.addPass(0, 0, 2, 3);
        desk.addPass(0, 0, 4, 5);
        Check.same("OPEN", desk.antenna(0, 0), -1);
        desk.take(11);
        int[] first = {1, 1, -1, -1, 3, -1};
        int[] second = {-1, -1, 0, 0, -1, -1};
        for (int minute = 0; minute < first.length; minute++) {
            Check.same("over 0 in minute " + minute, desk.antenna(0, 0), first[minute]);
            Check.same("over 1 in minute " + minute, desk.antenna(1, 0), second[minute]);
            desk.run(1);
        }
        PassDesk out = Desks.ofPasses(16);
        out.take(65535);
        out.addOutage(0, 15, 16);
        Check.same("the last pass, in an outage", Desks.at(15, out).antenna(0, 0), 15);
    }

    private static void antennaNext() {
        Check.sentence("Promise 20", "1 the pass over it that is TAKEN and begins first, from now on, -1 if there is none");
        PassDesk desk = Desks.of(2, 2);
        Check.same("without passes", desk.antenna(0, 1), -1);
        desk.addPass(0, 0, 6, 7);
        desk.addPass(0, 0, 3, 5);
        desk.addPass(0, 0, 1, 2);
        desk.addPass(1, 1, 9998, 9999);
        Check.same("OPEN ones alone", desk.antenna(0, 1), -1);
        desk.take(11);
        int[] due = {1, 1, 1, 1, 0, 0, 0, -1};
        for (int minute = 0; minute < due.length; minute++) {
            Check.same("over 0 in minute " + minute, desk.antenna(0, 1), due[minute]);
            Check.same("over 1 in minute " + minute, desk.antenna(1, 1), 3);
            desk.run(1);
        }
        Desks.at(9998, desk);
        Check.same("in the last minute that one can begin", desk.antenna(1, 1), 3);
        desk.run(1);
        Check.same("in the last minute", desk.antenna(1, 1), -1);
        PassDesk full = Desks.ofPasses(16);
        full.take(32768);
        Check.same("the last of 16", full.antenna(0, 1), 15);
        full.take(32767);
        Check.same("the first of 16", full.antenna(0, 1), 0);
    }

    private static void antennaOutage() {
        Check.sentence("Promise 20", "2 1 if it has an outage in this minute, else 0");
        PassDesk desk = Desks.of(2, 0);
        Check.same("without outages", desk.antenna(0, 2), 0);
        int[][] outages = {{2, 3}, {3, 5}, {8, 9}, {8, 9}, {9998, 9999}, {1, 2}};
        for (int[] outage : outages) {
            desk.addOutage(0, outage[0], outage[1]);
        }
        int[] due = {0, 1, 1, 1, 1, 0, 0, 0, 1, 0};
        for (int minute = 0; minute < due.length; minute++) {
            Check.same("of 0 in minute " + minute, desk.antenna(0, 2), due[minute]);
            Check.same("of 1 in minute " + minute, desk.antenna(1, 2), 0);
            desk.run(1);
        }
        Desks.at(9997, desk);
        Check.same("ahead of the last one", desk.antenna(0, 2), 0);
        desk.run(1);
        Check.same("in the last one", desk.antenna(0, 2), 1);
        desk.run(1);
        Check.same("in the last minute", desk.antenna(0, 2), 0);
    }

    private static void antennaUnits() {
        Check.sentence("Promise 20", "3 the units that came down by it");
        PassDesk desk = Desks.of(2, 2);
        Check.same("at first", desk.antenna(0, 3), 0);
        desk.addPass(0, 0, 0, 3);
        desk.addPass(1, 0, 3, 5);
        desk.addPass(1, 1, 5, 6);
        desk.take(7);
        desk.run(10);
        Check.same("by 0", desk.antenna(0, 3), 5);
        Check.same("by 1", desk.antenna(1, 3), 1);
    }

    private static void antennaOfNone() {
        Check.sentence("Promise 20", "Throws IndexOutOfBoundsException if there is no such antenna");
        Check.range("antenna of 2", Check.RANGE, 0, 1, () -> Desks.of(2, 8), (desk, number) -> desk.antenna(number, 0));
        Check.range("antenna of 5", Check.RANGE, 0, 4, () -> Desks.of(5, 8), (desk, number) -> desk.antenna(number, 3));
        PassDesk desk = Desks.of(0, 8);
        Check.failsWithout("antenna of none", Check.RANGE, desk, () -> desk.antenna(0, 0));
    }

    private static void antennaWhat() {
        Check.sentence("Promise 20", "or what is not 0 to 3");
        Check.range("what", Check.RANGE, 0, 3, () -> Desks.of(5, 1), (desk, what) -> desk.antenna(0, what));
    }

    private static void shareAnswer() {
        Check.sentence("Promise 21", "Returns the units that came down from all satellites, divided by all that they "
                + "gathered");
        PassDesk desk = new PassDesk();
        desk.addAntenna(1, 0, 100);
        desk.addSatellite(0, 1, 50, 1000);
        desk.addPass(0, 0, 0, 10);
        desk.take(1);
        desk.run(10);
        Check.same("all of it", desk.share(), 1.0);
        desk.addSatellite(0, 1, 25, 1000);
        desk.run(10);
        Check.same("of two satellites, one of which is never heard", desk.share(), 500.0 / 1250.0);
        PassDesk none = Desks.of(1, 1);
        none.run(1);
        Check.same("nothing of it", none.share(), 0.0);
        PassDesk thirds = new PassDesk();
        thirds.addAntenna(1, 0, 1);
        thirds.addSatellite(0, 1, 1, 1000);
        thirds.addPass(0, 0, 0, 1);
        thirds.take(1);
        thirds.run(3);
        Check.same("a third of it, as near as a double can", thirds.share(), 1.0 / 3.0);
    }

    private static void shareOfLost() {
        Check.sentence("Promise 21", "(what was lost is gathered, too)");
        PassDesk desk = new PassDesk();
        desk.addAntenna(1, 0, 1);
        desk.addSatellite(0, 1, 50, 1);
        desk.addPass(0, 0, 0, 1);
        desk.take(1);
        desk.run(1);
        Check.same("one of 50", desk.share(), 1.0 / 50.0);
        Desks.at(9999, desk);
        Check.same("one of nearly 500000", desk.share(), 1.0 / (9999 * 50));
    }

    private static void shareOfNothing() {
        Check.sentence("Promise 21", "1 if this is 0.");
        Check.same("of a new desk", new PassDesk().share(), 1.0);
        Check.same("in minute 0", Desks.of(5, 8).share(), 1.0);
        PassDesk desk = new PassDesk();
        desk.addAntenna(1, 0, 1);
        desk.addSatellite(0, 1, 0, 1);
        desk.addPass(0, 0, 0, 10);
        desk.take(1);
        desk.run(20);
        Check.same("of a satellite that gathers nothing", desk.share(), 1.0);
    }

    private static void digestStart() {
        Check.sentence("Promise 22", "A number d starts with 227");
        Check.same("of a new desk", new PassDesk().digest(), told(0, 5, 0, 0, 0));
        Check.same("of a new desk, as a number", new PassDesk().digest(), 6498966232L);
        PassDesk desk = Desks.at(9999, new PassDesk());
        desk.setHandover(60);
        Check.same("the last minute, the longest handover", desk.digest(), told(9999, 60, 0, 0, 0));
    }

    /** As the document says, but with numbers that have no bound: they are cut to 64 bits at the end alone. */
    private static long told(int... numbers) {
        return whole(numbers).longValue();
    }

    private static BigInteger whole(int... numbers) {
        BigInteger d = BigInteger.valueOf(227);
        for (int x : numbers) {
            d = d.multiply(BigInteger.valueOf(31)).add(BigInteger.valueOf(x));
        }
        return d;
    }

    private static void digestWrapsAround() {
        Check.sentence("Promise 22", "d becomes d * 31 + x, which wraps around as a 64-bit integer");
        PassDesk desk = Desks.of(0, 2);
        int[] numbers = {0, 5, 0, 2, 0, 0, 0, 99, 0, 0, 0, 99, 0};
        Check.same("it has more than 64 bits", whole(numbers).bitLength() > 64, true);
        Check.same("13 numbers", desk.digest(), told(numbers));
        PassDesk longer = new PassDesk();
        longer.addAntenna(1, 3, 2);
        longer.addSatellite(0, 4, 5, 6);
        longer.addPass(0, 0, 1, 3);
        longer.take(1);
        longer.run(2);
        // minute 0: 5 kept; minute 1: 6 kept, 4 lost, 2 come down
        int[] facts = {2, 5, 1, 0, -1, 0, 2, 1, 4, 4, 2, 2, 1, 0, 0, 1, 3, 8, 1, 2, 1};
        Check.same("21 numbers", longer.digest(), told(facts));
    }

    private static void digestOfNegative() {
        Check.sentence("Promise 22", "and for each of them what antenna() tells, in its order");
        PassDesk desk = Desks.of(1, 0);
        Check.same("an antenna without passes", desk.digest(), told(0, 5, 1, -1, -1, 0, 0, 0, 0));
        desk.addOutage(0, 0, 1);
        Check.same("an antenna with an outage", desk.digest(), told(0, 5, 1, -1, -1, 1, 0, 0, 0));
        desk.addSatellite(0, 1, 0, 1);
        desk.addPass(0, 0, 0, 1);
        Check.same("a satellite that gathers nothing, a pass that is OPEN", desk.digest(),
                told(0, 5, 1, -1, -1, 1, 0, 1, 0, 0, 0, -1, 1, 0, 0, 0, 1, 1, 0, 0, -1));
    }

    private static void digestChangesNothing() {
        Check.sentence("Promise 22", "Computes a checksum.");
        PassDesk desk = Desks.busy();
        PassDesk twin = Desks.busy();
        for (int i = 0; i < 10; i++) {
            desk.digest();
        }
        Check.same("asked ten times", desk.digest(), twin.digest());
        Check.same("what comes down", desk.run(90), twin.run(90));
        Check.same("and behind it", desk.digest(), twin.digest());
    }
}

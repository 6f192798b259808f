/** Promises 17 to 22: minutes that pass, what came down, what is told of it. */
public final class HappeningTest {
    public static void main(String[] args) {
        promise17Gathering();
        promise17BringingDown();
        promise17OrderOfPasses();
        promise17Handover();
        promise17Outage();
        promise17Limits();
        promise18Now();
        promise19Satellite();
        promise19MinuteOfFull();
        promise20Antenna();
        promise20NextPass();
        promise20Outage();
        promise21Share();
        promise22Digest();
        Check.end();
    }

    private static void promise17Gathering() {
        PassDesk desk = new PassDesk();
        desk.addSatellite(0, 1, 7, 20);
        desk.addSatellite(0, 1, 0, 20);
        Check.same("nothing comes down", desk.run(2), 0);
        Check.same("gathered", desk.satellite(0, 0), 14);
        Check.same("nothing lost", desk.satellite(0, 1), 0);
        desk.run(1);
        Check.same("full", desk.satellite(0, 0), 20);
        Check.same("one has no room", desk.satellite(0, 1), 1);
        desk.run(10);
        Check.same("still full", desk.satellite(0, 0), 20);
        Check.same("all lost", desk.satellite(0, 1), 71);
        Check.same("gathers nothing", desk.satellite(1, 0), 0);
        desk.addSatellite(0, 1, 3, 100);
        desk.run(2);
        Check.same("from its creation on", desk.satellite(2, 0), 6);
    }

    private static void promise17BringingDown() {
        PassDesk desk = new PassDesk();
        desk.addAntenna(1, 0, 10);
        desk.addSatellite(0, 1, 4, 12);
        desk.addPass(0, 0, 5, 8);
        desk.addPass(0, 0, 9, 10);
        desk.take(1);
        Check.same("ahead of the begin", desk.run(5), 0);
        // lost first, though the pass would make room in the same minute
        Check.same("the first minute", desk.run(1), 10);
        Check.same("lost ahead of it", desk.satellite(0, 1), 12);
        Check.same("left", desk.satellite(0, 0), 2);
        Check.same("as many as it has", desk.run(1), 6);
        Check.same("the last minute, and one behind it", desk.run(2), 4);
        Check.same("kept", desk.satellite(0, 0), 4);
        Check.same("an OPEN one brings nothing", desk.run(3), 0);
        Check.same("by the pass", desk.pass(0, 6), 20);
        Check.same("by the OPEN one", desk.pass(1, 6), 0);
    }

    private static void promise17OrderOfPasses() {
        PassDesk desk = new PassDesk();
        desk.addAntenna(1, 0, 3);
        desk.addAntenna(1, 0, 5);
        desk.addSatellite(0, 1, 2, 100);
        desk.addSatellite(0, 1, 50, 100);
        desk.addPass(1, 1, 0, 4);
        desk.addPass(0, 0, 0, 4);
        desk.take(3);
        Check.same("two satellites at once", desk.run(4), 28);
        Check.same("as the antenna can", desk.pass(0, 6), 20);
        Check.same("as the satellite has", desk.pass(1, 6), 8);
        Check.same("by antenna 0", desk.antenna(0, 3), 8);
        Check.same("by antenna 1", desk.antenna(1, 3), 20);
        Check.same("from satellite 0", desk.satellite(0, 2), 8);
        Check.same("from satellite 1", desk.satellite(1, 2), 20);
    }

    private static void promise17Handover() {
        PassDesk desk = new PassDesk();
        desk.addAntenna(1, 0, 1);
        desk.addAntenna(1, 0, 10);
        desk.addSatellite(0, 1, 10, 1000);
        desk.addPass(0, 0, 0, 10);
        desk.addPass(0, 1, 6, 12);
        desk.take(3);
        Check.same("the later one waits", desk.run(10), 10);
        Check.same("none by it", desk.pass(1, 6), 0);
        Check.same("from its start on", desk.run(3), 20);
        Check.same("all by it", desk.pass(1, 6), 20);
    }

    private static void promise17Outage() {
        PassDesk desk = new PassDesk();
        desk.addAntenna(1, 0, 2);
        desk.addAntenna(1, 0, 3);
        desk.addSatellite(0, 1, 5, 1000);
        desk.addSatellite(0, 1, 5, 1000);
        desk.addPass(0, 0, 0, 10);
        desk.addPass(1, 1, 0, 10);
        desk.take(3);
        desk.addOutage(0, 3, 6);
        Check.same("ahead of the outage", desk.run(3), 15);
        Check.same("only over the other antenna", desk.run(3), 9);
        Check.same("behind the outage", desk.run(4), 20);
        Check.same("by the pass with the outage", desk.pass(0, 6), 14);
    }

    private static void promise17Limits() {
        PassDesk desk = new PassDesk();
        desk.addSatellite(0, 1, 1, 100000);
        for (int wrong : new int[] {0, -1, 501, Integer.MIN_VALUE, Integer.MAX_VALUE}) {
            Check.failsWithout("run(" + wrong + ")", Check.ARGUMENT, desk, () -> desk.run(wrong));
        }
        for (int i = 0; i < 19; i++) {
            desk.run(500);
        }
        Check.failsWithout("run(500) to 10000", Check.STATE, desk, () -> desk.run(500));
        desk.run(498);
        Check.failsWithout("run(2) to 10000", Check.STATE, desk, () -> desk.run(2));
        Check.same("run(1) to 9999", desk.run(1), 0);
        Check.same("the last minute", desk.now(), 9999);
        Check.failsWithout("run(1) to 10000", Check.STATE, desk, () -> desk.run(1));
        Check.failsWithout("run(501) at the end", Check.ARGUMENT, desk, () -> desk.run(501));
        Check.same("all gathered", desk.satellite(0, 0), 9999);
        desk.addAntenna(1, 0, 1);
        Check.fails("addPass at the end", Check.ARGUMENT, () -> desk.addPass(0, 0, 9999, 10000));
    }

    private static void promise18Now() {
        PassDesk desk = new PassDesk();
        Check.same("at first", desk.now(), 0);
        desk.run(1);
        Check.same("behind one", desk.now(), 1);
        desk.run(500);
        Check.same("behind 500 more", desk.now(), 501);
        Check.fails("run(0)", Check.ARGUMENT, () -> desk.run(0));
        Check.same("still", desk.now(), 501);
    }

    private static void promise19Satellite() {
        PassDesk desk = new PassDesk();
        desk.addAntenna(1, 0, 3);
        desk.addSatellite(1, 1, 9, 9);
        desk.addSatellite(0, 1, 4, 10);
        desk.addPass(1, 0, 3, 5);
        desk.take(1);
        desk.run(6);
        // 4, 8, 10 (2 lost), 10 (4 lost) - 3, 10 (1 lost) - 3, 10 (1 lost)
        Check.same("units", desk.satellite(1, 0), 10);
        Check.same("lost", desk.satellite(1, 1), 8);
        Check.same("down", desk.satellite(1, 2), 6);
        Check.same("full", desk.satellite(1, 3), -1);
        int[][] wrong = {{-1, 0}, {2, 0}, {0, -1}, {0, 4}, {Integer.MAX_VALUE, 0}, {0, Integer.MIN_VALUE}};
        for (int[] w : wrong) {
            Check.failsWithout("satellite(" + w[0] + ", " + w[1] + ")", Check.RANGE, desk,
                    () -> desk.satellite(w[0], w[1]));
        }
    }

    private static void promise19MinuteOfFull() {
        PassDesk desk = new PassDesk();
        desk.addSatellite(0, 1, 10, 30);
        desk.addSatellite(0, 1, 10, 31);
        desk.addSatellite(0, 1, 10, 29);
        desk.addSatellite(0, 1, 0, 1);
        desk.addSatellite(0, 1, 50, 1);
        desk.addSatellite(0, 1, 1, 100000);
        int[] due = {2, 3, 2, -1, 0, 99999};
        for (int i = 0; i < due.length; i++) {
            Check.same("full behind, satellite " + i, desk.satellite(i, 3), due[i]);
        }
        desk.run(2);
        due[4] = -1;
        for (int i = 0; i < due.length; i++) {
            Check.same("two minutes later, satellite " + i, desk.satellite(i, 3), due[i]);
        }
        desk.run(1);
        Check.same("full now", desk.satellite(0, 3), -1);
        Check.same("one unit of room", desk.satellite(1, 3), 3);
        Check.same("full behind the same minute", desk.satellite(2, 3), -1);
    }

    private static void promise20Antenna() {
        PassDesk desk = new PassDesk();
        desk.addAntenna(1, 0, 2);
        desk.addAntenna(1, 0, 4);
        desk.addSatellite(0, 1, 10, 1000);
        desk.addPass(0, 1, 3, 10);
        desk.addPass(0, 0, 1, 5);
        desk.take(3);
        int[] first = {-1, 1, 1, 1, 1, -1, -1, -1, -1, -1, -1, -1};
        int[] second = {-1, -1, -1, -1, -1, 0, 0, 0, 0, 0, -1, -1};
        for (int minute = 0; minute < first.length; minute++) {
            Check.same("heard over 0 in minute " + minute, desk.antenna(0, 0), first[minute]);
            Check.same("heard over 1 in minute " + minute, desk.antenna(1, 0), second[minute]);
            desk.run(1);
        }
        Check.same("by antenna 0", desk.antenna(0, 3), 8);
        Check.same("by antenna 1", desk.antenna(1, 3), 20);
        int[][] wrong = {{-1, 0}, {2, 0}, {0, -1}, {0, 4}, {Integer.MAX_VALUE, 0}, {0, Integer.MIN_VALUE}};
        for (int[] w : wrong) {
            Check.failsWithout("antenna(" + w[0] + ", " + w[1] + ")", Check.RANGE, desk,
                    () -> desk.antenna(w[0], w[1]));
        }
    }

    private static void promise20NextPass() {
        PassDesk desk = new PassDesk();
        desk.addAntenna(1, 0, 2);
        desk.addAntenna(1, 0, 2);
        desk.addSatellite(0, 1, 10, 1000);
        desk.addPass(0, 0, 20, 25);
        desk.addPass(0, 0, 10, 15);
        desk.addPass(0, 0, 4, 8);
        desk.addPass(0, 1, 30, 35);
        Check.same("none TAKEN", desk.antenna(0, 1), -1);
        desk.take(11);
        Check.same("the first that is TAKEN", desk.antenna(0, 1), 1);
        Check.same("over the other antenna", desk.antenna(1, 1), 3);
        desk.run(10);
        Check.same("it begins now", desk.antenna(0, 1), 1);
        Check.same("and is heard", desk.antenna(0, 0), 1);
        desk.run(1);
        Check.same("the next one", desk.antenna(0, 1), 0);
        desk.giveUp(0);
        Check.same("no more", desk.antenna(0, 1), -1);
        desk.addPass(0, 1, 40, 45);
        desk.take(16);
        Check.same("the first, though another one comes behind it", desk.antenna(1, 1), 3);
        PassDesk late = new PassDesk();
        late.addAntenna(1, 0, 2);
        late.addSatellite(0, 1, 10, 1000);
        late.addPass(0, 0, 9998, 9999);
        late.take(1);
        Check.same("the last minute that can be", late.antenna(0, 1), 0);
    }

    private static void promise20Outage() {
        PassDesk desk = new PassDesk();
        desk.addAntenna(1, 0, 2);
        desk.addAntenna(1, 0, 2);
        desk.addSatellite(0, 1, 10, 1000);
        desk.addPass(0, 0, 0, 10);
        desk.take(1);
        desk.addOutage(0, 2, 4);
        desk.addOutage(1, 3, 5);
        int[] first = {0, 0, 1, 1, 0, 0};
        int[] second = {0, 0, 0, 1, 1, 0};
        for (int minute = 0; minute < first.length; minute++) {
            Check.same("outage of 0 in minute " + minute, desk.antenna(0, 2), first[minute]);
            Check.same("outage of 1 in minute " + minute, desk.antenna(1, 2), second[minute]);
            Check.same("heard all the same", desk.antenna(0, 0), 0);
            desk.run(1);
        }
    }

    private static void promise21Share() {
        PassDesk desk = new PassDesk();
        Check.same("of no satellites", desk.share(), 1.0);
        desk.addAntenna(1, 0, 3);
        desk.addSatellite(0, 1, 5, 5);
        desk.addSatellite(1, 1, 2, 1000);
        Check.same("of nothing gathered", desk.share(), 1.0);
        desk.addPass(0, 0, 1, 3);
        desk.take(1);
        desk.run(1);
        Check.same("of nothing that came down", desk.share(), 0.0);
        desk.run(2);
        // 15 and 6 gathered, 8 of them lost, 6 came down
        Check.same("with what was lost", desk.share(), 6.0 / 21.0);
        PassDesk idle = new PassDesk();
        idle.addSatellite(0, 1, 0, 5);
        idle.run(9);
        Check.same("of a satellite that gathers nothing", idle.share(), 1.0);
        PassDesk all = new PassDesk();
        all.addAntenna(1, 0, 100);
        all.addSatellite(0, 1, 50, 100);
        all.addPass(0, 0, 0, 600);
        all.take(1);
        all.run(500);
        Check.same("of all that came down", all.share(), 1.0);
    }

    private static void promise22Digest() {
        for (int minute = 0; minute < 60; minute += 2) {
            PassDesk desk = Desks.at(minute, deskOfDigest());
            Check.same("digest() in minute " + minute, desk.digest(), told(desk, 6));
            Check.same("digest() once more", desk.digest(), told(desk, 6));
            desk.setHandover(7);
            Check.same("digest() of another handover", desk.digest(), told(desk, 7));
        }
        PassDesk full = Desks.busy();
        Check.same("digest() of a full desk", full.digest(), told(full, 5));
    }

    private static PassDesk deskOfDigest() {
        PassDesk desk = new PassDesk();
        desk.addAntenna(3, 5, 10);
        desk.addAntenna(2, 0, 20);
        desk.addSatellite(0, 3, 4, 200);
        desk.addSatellite(1, 5, 10, 50);
        desk.addPass(0, 0, 10, 30);
        desk.addPass(1, 0, 35, 50);
        desk.addPass(1, 1, 20, 40);
        desk.addOutage(1, 24, 26);
        desk.setHandover(6);
        desk.take(3);
        return desk;
    }

    /** The checksum of what the desk tells by its other methods. */
    private static long told(PassDesk desk, int handover) {
        long d = 227;
        d = d * 31 + desk.now();
        d = d * 31 + handover;
        d = d * 31 + desk.count(0);
        for (int i = 0; i < desk.count(0); i++) {
            for (int what = 0; what < 4; what++) {
                d = d * 31 + desk.antenna(i, what);
            }
        }
        d = d * 31 + desk.count(1);
        for (int i = 0; i < desk.count(1); i++) {
            for (int what = 0; what < 4; what++) {
                d = d * 31 + desk.satellite(i, what);
            }
        }
        d = d * 31 + desk.count(2);
        for (int i = 0; i < desk.count(2); i++) {
            for (int what = 0; what < 8; what++) {
                d = d * 31 + desk.pass(i, what);
            }
        }
        return d;
    }
}

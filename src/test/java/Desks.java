/** Desks that tests start from. */
final class Desks {
    static final int ALL_BANDS = 15;
    static final int LAST_MINUTE = 9999;

    private Desks() {
    }

    /** Antennas that hear all bands, need no set-up and bring down 1; satellites of band 0, priority 1, 1 of 100 units. */
    static PassDesk of(int antennas, int satellites) {
        PassDesk desk = new PassDesk();
        for (int i = 0; i < antennas; i++) {
            desk.addAntenna(ALL_BANDS, 0, 1);
        }
        for (int i = 0; i < satellites; i++) {
            desk.addSatellite(0, 1, 1, 100);
        }
        return desk;
    }

    /** A desk of one antenna and one satellite with so many passes of a minute each, one behind the other. */
    static PassDesk ofPasses(int passes) {
        PassDesk desk = of(1, 1);
        for (int i = 0; i < passes; i++) {
            desk.addPass(0, 0, i, i + 1);
        }
        return desk;
    }

    static PassDesk at(int minute, PassDesk desk) {
        while (desk.now() < minute) {
            desk.run(Math.min(500, minute - desk.now()));
        }
        return desk;
    }

    /**
     * A desk that is full of everything, in minute 20: pass 0 is heard, pass 1 waits for its handover, pass 2 is over,
     * pass 3 has an outage, the passes 4 and 5 are TAKEN and to come, 6 is OPEN and began, 7 begins now, 8 is in
     * conflict with pass 4, 9 has an outage, 10 and 11 are in conflict with one another, and 12 to 15 are free.
     */
    static PassDesk busy() {
        PassDesk desk = new PassDesk();
        for (int i = 0; i < 5; i++) {
            desk.addAntenna(i == 4 ? 7 : ALL_BANDS, 5, 3 + i);
        }
        for (int i = 0; i < 8; i++) {
            desk.addSatellite(i % 4, 1 + i, 2 * i, 60);
        }
        int[][] passes = {{1, 0, 10, 25}, {1, 1, 20, 40}, {2, 2, 0, 12}, {4, 3, 15, 30}, {5, 0, 40, 50}, {6, 2, 45, 55},
            {7, 2, 18, 22}, {5, 2, 20, 30}, {4, 0, 52, 60}, {3, 3, 36, 44}, {6, 4, 70, 80}, {2, 4, 75, 85},
            {1, 1, 100, 110}, {2, 2, 100, 110}, {4, 3, 100, 110}, {5, 0, 100, 110}};
        for (int[] pass : passes) {
            desk.addPass(pass[0], pass[1], pass[2], pass[3]);
        }
        desk.take(0b111111);
        int[][] outages = {{3, 19, 22}, {3, 40, 41}, {0, 51, 52}, {4, 66, 70}, {1, 0, 2}, {2, 60, 99}};
        for (int[] outage : outages) {
            desk.addOutage(outage[0], outage[1], outage[2]);
        }
        desk.run(20);
        return desk;
    }
}

/** A test for each sentence of the promises 1 to 8 that names a boundary case. */
public final class BuildingEdgesTest {
    public static void main(String[] args) {
        newDeskIsEmpty();
        newDeskRefuses();
        antennaNumbers();
        antennaArguments();
        antennaRoom();
        satelliteNumbers();
        satelliteArguments();
        satelliteRoom();
        passNumbers();
        passOfNone();
        passBegin();
        passEndNotBehindBegin();
        passTooLong();
        passTooLate();
        passWrapAround();
        passBand();
        passRoom();
        outageCount();
        outageCountOfTaken();
        outageOfNone();
        outageFrom();
        outageToNotBehindFrom();
        outageTooLate();
        outageRoom();
        handoverBefore();
        handoverRange();
        countWhat();
        countAnswers();
        passNoSuch();
        passWhat();
        passStart();
        passUnits();
        Check.end();
    }

    private static void newDeskIsEmpty() {
        Check.sentence("Promise 1", "Creates a desk without antennas, satellites and passes, at minute 0.");
        for (int what = 0; what < 3; what++) {
            Check.same("count(" + what + ")", new PassDesk().count(what), 0);
        }
        Check.same("now()", new PassDesk().now(), 0);
        Check.same("best()", new PassDesk().best(), 0);
        Check.same("taken()", new PassDesk().taken(), 0);
        Check.same("take(0)", new PassDesk().take(0), 0);
        Check.same("weight(0)", new PassDesk().weight(0), 0);
        Check.same("share()", new PassDesk().share(), 1.0);
        Check.same("run(1)", new PassDesk().run(1), 0);
        Check.same("setHandover(0)", new PassDesk().setHandover(0), 5);
    }

    private static void newDeskRefuses() {
        Check.sentence("Promise 1", "Creates a desk without antennas, satellites and passes");
        PassDesk desk = new PassDesk();
        Check.failsWithout("pass(0, 0)", Check.RANGE, desk, () -> desk.pass(0, 0));
        Check.failsWithout("antenna(0, 0)", Check.RANGE, desk, () -> desk.antenna(0, 0));
        Check.failsWithout("satellite(0, 0)", Check.RANGE, desk, () -> desk.satellite(0, 0));
        Check.failsWithout("handovers(0)", Check.RANGE, desk, () -> desk.handovers(0));
        Check.failsWithout("canTake(0)", Check.RANGE, desk, () -> desk.canTake(0));
        Check.failsWithout("giveUp(0)", Check.RANGE, desk, () -> desk.giveUp(0));
        Check.failsWithout("isConflict(0, 0)", Check.RANGE, desk, () -> desk.isConflict(0, 0));
        Check.failsWithout("isConflict(0, 1)", Check.RANGE, desk, () -> desk.isConflict(0, 1));
        Check.failsWithout("weight(1)", Check.ARGUMENT, desk, () -> desk.weight(1));
        Check.failsWithout("take(1)", Check.ARGUMENT, desk, () -> desk.take(1));
        Check.failsWithout("addPass(0, 0, 0, 1)", Check.RANGE, desk, () -> desk.addPass(0, 0, 0, 1));
        Check.failsWithout("addOutage(0, 0, 1)", Check.RANGE, desk, () -> desk.addOutage(0, 0, 1));
    }

    private static void antennaNumbers() {
        Check.sentence("Promise 2", "Returns its number.");
        PassDesk desk = new PassDesk();
        Check.same("the first", desk.addAntenna(15, 30, 100), 0);
        Check.fails("a refused one", Check.ARGUMENT, () -> desk.addAntenna(16, 30, 100));
        Check.same("the next one", desk.addAntenna(1, 0, 1), 1);
    }

    private static void antennaArguments() {
        Check.sentence("Promise 2", "Throws IllegalArgumentException if bands is not 1 to 15, setUp is not 0 to 30, or "
                + "rate is not 1 to 100");
        Check.range("bands", Check.ARGUMENT, 1, 15, PassDesk::new, (desk, bands) -> desk.addAntenna(bands, 0, 1));
        Check.range("setUp", Check.ARGUMENT, 0, 30, PassDesk::new, (desk, setUp) -> desk.addAntenna(1, setUp, 1));
        Check.range("rate", Check.ARGUMENT, 1, 100, PassDesk::new, (desk, rate) -> desk.addAntenna(1, 0, rate));
        PassDesk desk = new PassDesk();
        Check.failsWithout("all wrong", Check.ARGUMENT, desk, () -> desk.addAntenna(0, 31, 0));
    }

    private static void antennaRoom() {
        Check.sentence("Promise 2", "Throws IllegalStateException if there are 5 antennas");
        Check.holds("with 4 antennas", () -> Desks.of(4, 0).addAntenna(1, 0, 1));
        PassDesk desk = Desks.of(5, 0);
        Check.failsWithout("with 5 antennas", Check.STATE, desk, () -> desk.addAntenna(1, 0, 1));
        Check.failsWithout("with 5 antennas, once more", Check.STATE, desk, () -> desk.addAntenna(15, 30, 100));
        Check.same("still 5", desk.count(0), 5);
        Check.failsWithout("there is no antenna 5", Check.RANGE, desk, () -> desk.antenna(5, 0));
    }

    private static void satelliteNumbers() {
        Check.sentence("Promise 3", "Returns its number.");
        PassDesk desk = new PassDesk();
        Check.same("the first", desk.addSatellite(3, 9, 50, 100000), 0);
        Check.fails("a refused one", Check.ARGUMENT, () -> desk.addSatellite(4, 9, 50, 100000));
        Check.same("the next one", desk.addSatellite(0, 1, 0, 1), 1);
    }

    private static void satelliteArguments() {
        Check.sentence("Promise 3", "Throws IllegalArgumentException if band is not 0 to 3, priority is not 1 to 9, "
                + "gathers is not 0 to 50, or memory is not 1 to 100000");
        Check.range("band", Check.ARGUMENT, 0, 3, PassDesk::new, (desk, band) -> desk.addSatellite(band, 1, 0, 1));
        Check.range("priority", Check.ARGUMENT, 1, 9, PassDesk::new,
                (desk, priority) -> desk.addSatellite(0, priority, 0, 1));
        Check.range("gathers", Check.ARGUMENT, 0, 50, PassDesk::new,
                (desk, gathers) -> desk.addSatellite(0, 1, gathers, 1));
        Check.range("memory", Check.ARGUMENT, 1, 100000, PassDesk::new,
                (desk, memory) -> desk.addSatellite(0, 1, 0, memory));
        PassDesk desk = new PassDesk();
        Check.failsWithout("all wrong", Check.ARGUMENT, desk, () -> desk.addSatellite(4, 0, 51, 0));
    }

    private static void satelliteRoom() {
        Check.sentence("Promise 3", "Throws IllegalStateException if there are 8 satellites");
        Check.holds("with 7 satellites", () -> Desks.of(0, 7).addSatellite(0, 1, 0, 1));
        PassDesk desk = Desks.of(0, 8);
        Check.failsWithout("with 8 satellites", Check.STATE, desk, () -> desk.addSatellite(0, 1, 0, 1));
        Check.failsWithout("with 8 satellites, once more", Check.STATE, desk, () -> desk.addSatellite(3, 9, 50, 9));
        Check.same("still 8", desk.count(1), 8);
        Check.failsWithout("there is no satellite 8", Check.RANGE, desk, () -> desk.satellite(8, 0));
    }

    private static void passNumbers() {
        Check.sentence("Promise 4", "Returns its number.");
        PassDesk desk = Desks.of(1, 1);
        Check.same("the first", desk.addPass(0, 0, 50, 60), 0);
        Check.fails("a refused one", Check.ARGUMENT, () -> desk.addPass(0, 0, 50, 50));
        Check.same("the next one, though it begins first", desk.addPass(0, 0, 40, 45), 1);
    }

    private static void passOfNone() {
        Check.sentence("Promise 4", "Throws IndexOutOfBoundsException if there is no such satellite or antenna");
        Check.range("satellite", Check.RANGE, 0, 2, () -> Desks.of(2, 3), (desk, number) -> desk.addPass(number, 0, 0, 1));
        Check.range("antenna", Check.RANGE, 0, 1, () -> Desks.of(2, 3), (desk, number) -> desk.addPass(0, number, 0, 1));
        Check.range("satellite of 8", Check.RANGE, 0, 7, () -> Desks.of(5, 8),
                (desk, number) -> desk.addPass(number, 4, 0, 1));
        Check.range("antenna of 5", Check.RANGE, 0, 4, () -> Desks.of(5, 8),
                (desk, number) -> desk.addPass(7, number, 0, 1));
        PassDesk deaf = Desks.of(0, 1);
        Check.failsWithout("without antennas", Check.RANGE, deaf, () -> deaf.addPass(0, 0, 0, 1));
        PassDesk alone = Desks.of(1, 0);
        Check.failsWithout("without satellites", Check.RANGE, alone, () -> alone.addPass(0, 0, 0, 1));
    }

    private static void passBegin() {
        Check.sentence("Promise 4", "Throws IllegalArgumentException if begin is less than the minute that it is");
        for (int now : new int[] {0, 1, 7, 9997, 9998}) {
            PassDesk desk = Desks.at(now, Desks.of(1, 1));
            Check.failsWithout("a minute before " + now, Check.ARGUMENT, desk, () -> desk.addPass(0, 0, now - 1, now + 1));
            Check.same("in minute " + now, desk.addPass(0, 0, now, now + 1), 0);
        }
        PassDesk desk = Desks.at(9999, Desks.of(1, 1));
        Check.failsWithout("before the last minute", Check.ARGUMENT, desk, () -> desk.addPass(0, 0, 9998, 9999));
        Check.failsWithout("from the last minute on", Check.ARGUMENT, desk, () -> desk.addPass(0, 0, 9999, 10000));
    }

    private static void passEndNotBehindBegin() {
        Check.sentence("Promise 4", "end is not greater than begin");
        for (int begin : new int[] {0, 1, 500, 9998}) {
            PassDesk desk = Desks.of(1, 1);
            Check.failsWithout("ends ahead of " + begin, Check.ARGUMENT, desk, () -> desk.addPass(0, 0, begin, begin - 1));
            Check.failsWithout("ends at " + begin, Check.ARGUMENT, desk, () -> desk.addPass(0, 0, begin, begin));
            Check.same("a minute from " + begin + " on", desk.addPass(0, 0, begin, begin + 1), 0);
        }
    }

    private static void passTooLong() {
        Check.sentence("Promise 4", "greater than begin plus 600");
        for (int begin : new int[] {0, 1, 500, 9398}) {
            PassDesk desk = Desks.of(1, 1);
            Check.failsWithout("601 from " + begin + " on", Check.ARGUMENT, desk,
                    () -> desk.addPass(0, 0, begin, begin + 601));
            Check.failsWithout("up to 9999 from " + begin + " on", Check.ARGUMENT, desk,
                    () -> desk.addPass(0, 0, begin, 9999));
            Check.same("600 from " + begin + " on", desk.addPass(0, 0, begin, begin + 600), 0);
        }
    }

    private static void passTooLate() {
        Check.sentence("Promise 4", "or greater than 9999");
        for (int begin : new int[] {9399, 9400, 9997, 9998}) {
            PassDesk desk = Desks.of(1, 1);
            Check.failsWithout("10000 from " + begin + " on", Check.ARGUMENT, desk,
                    () -> desk.addPass(0, 0, begin, 10000));
            Check.same("9999 from " + begin + " on", desk.addPass(0, 0, begin, 9999), 0);
        }
        PassDesk desk = Desks.of(1, 1);
        Check.failsWithout("begins in minute 9999", Check.ARGUMENT, desk, () -> desk.addPass(0, 0, 9999, 10000));
        Check.failsWithout("begins in minute 10000", Check.ARGUMENT, desk, () -> desk.addPass(0, 0, 10000, 10001));
    }

    private static void passWrapAround() {
        Check.sentence("Promise 4", "greater than begin plus 600, or greater than 9999");
        int least = Integer.MIN_VALUE;
        int greatest = Integer.MAX_VALUE;
        int[][] wrong = {{greatest, greatest}, {greatest - 1, greatest}, {greatest - 600, greatest}, {greatest, least},
            {least, least}, {least, least + 1}, {least, greatest}, {least, 1}, {0, greatest}, {0, least}, {5, least + 5},
            {-1, greatest}, {-600, 1}, {65536, 65537}, {0, 65537}, {-65536, 1}};
        PassDesk desk = Desks.of(1, 1);
        for (int[] span : wrong) {
            Check.failsWithout(span[0] + " to " + span[1], Check.ARGUMENT, desk,
                    () -> desk.addPass(0, 0, span[0], span[1]));
        }
    }

    private static void passBand() {
        Check.sentence("Promise 4", "or the antenna does not hear the band of the satellite");
        for (int band = 0; band < 4; band++) {
            PassDesk desk = new PassDesk();
            desk.addAntenna(15 - (1 << band), 0, 1);
            desk.addAntenna(1 << band, 0, 1);
            desk.addSatellite(band, 1, 1, 1);
            Check.failsWithout("all bands but " + band, Check.ARGUMENT, desk, () -> desk.addPass(0, 0, 0, 1));
            Check.same("band " + band + " alone", desk.addPass(0, 1, 0, 1), 0);
        }
    }

    private static void passRoom() {
        Check.sentence("Promise 4", "Throws IllegalStateException if there are 16 passes");
        Check.same("with 15 passes", Desks.ofPasses(15).addPass(0, 0, 9998, 9999), 15);
        PassDesk desk = Desks.ofPasses(16);
        Check.failsWithout("with 16 passes", Check.STATE, desk, () -> desk.addPass(0, 0, 20, 30));
        desk.run(100);
        Check.failsWithout("with 16 passes that are over", Check.STATE, desk, () -> desk.addPass(0, 0, 100, 101));
        Check.same("still 16", desk.count(2), 16);
        Check.failsWithout("there is no pass 16", Check.RANGE, desk, () -> desk.pass(16, 0));
    }

    /** Passes of antenna 0: from 10 to 20, from 20 to 21, from 30 to 40; of antenna 1: from 10 to 40; all TAKEN. */
    private static PassDesk deskOfTaken() {
        PassDesk desk = Desks.of(2, 2);
        desk.addPass(0, 0, 10, 20);
        desk.addPass(0, 0, 20, 21);
        desk.addPass(0, 0, 30, 40);
        desk.addPass(1, 1, 10, 40);
        desk.take(15);
        return desk;
    }

    private static void outageCount() {
        Check.sentence("Promise 5", "Returns how many passes over this antenna that are TAKEN have a minute in common "
                + "with it.");
        int[][] due = {{0, 9, 10, 0}, {0, 0, 10, 0}, {0, 9, 11, 1}, {0, 19, 20, 1}, {0, 20, 21, 1}, {0, 19, 21, 2},
            {0, 19, 30, 2}, {0, 19, 31, 3}, {0, 21, 30, 0}, {0, 39, 9999, 1}, {0, 40, 9999, 0}, {0, 0, 9999, 3},
            {0, 15, 16, 1}, {1, 0, 9999, 1}, {1, 0, 10, 0}};
        for (int[] outage : due) {
            Check.same("antenna " + outage[0] + ", " + outage[1] + " to " + outage[2],
                    deskOfTaken().addOutage(outage[0], outage[1], outage[2]), outage[3]);
        }
        Check.same("without passes", Desks.of(1, 0).addOutage(0, 0, 9999), 0);
        PassDesk full = Desks.ofPasses(16);
        full.take(65535);
        Check.same("16 passes", full.addOutage(0, 0, 16), 16);
        Check.same("14 passes", full.addOutage(0, 1, 15), 14);
    }

    private static void outageCountOfTaken() {
        Check.sentence("Promise 5", "passes over this antenna that are TAKEN");
        PassDesk desk = deskOfTaken();
        desk.giveUp(1);
        Check.same("an OPEN one is none of them", desk.addOutage(0, 19, 31), 2);
        desk.run(19);
        Check.same("one that began is, for the minute that is left", desk.addOutage(0, 19, 20), 1);
        desk.run(1);
        Check.same("one that is over is not", desk.addOutage(0, 20, 25), 0);
        Check.same("they stay TAKEN", desk.taken(), 13);
        PassDesk handed = Desks.of(2, 1);
        handed.addPass(0, 0, 0, 10);
        handed.addPass(0, 1, 5, 20);
        handed.take(3);
        Check.same("from its begin on, though its start is later", handed.addOutage(1, 5, 6), 1);
    }

    private static void outageOfNone() {
        Check.sentence("Promise 5", "Throws IndexOutOfBoundsException if there is no such antenna");
        Check.range("antenna", Check.RANGE, 0, 1, () -> Desks.of(2, 3), (desk, number) -> desk.addOutage(number, 0, 1));
        Check.range("antenna of 5", Check.RANGE, 0, 4, () -> Desks.of(5, 8),
                (desk, number) -> desk.addOutage(number, 0, 1));
    }

    private static void outageFrom() {
        Check.sentence("Promise 5", "Throws IllegalArgumentException if from is less than the minute that it is");
        for (int now : new int[] {0, 1, 7, 9997, 9998}) {
            PassDesk desk = Desks.at(now, Desks.of(1, 1));
            Check.failsWithout("a minute before " + now, Check.ARGUMENT, desk, () -> desk.addOutage(0, now - 1, now + 1));
            Check.same("in minute " + now, desk.addOutage(0, now, now + 1), 0);
            Check.same("and it is one", desk.antenna(0, 2), 1);
        }
    }

    private static void outageToNotBehindFrom() {
        Check.sentence("Promise 5", "to is not greater than from");
        for (int from : new int[] {0, 1, 500, 9998}) {
            PassDesk desk = Desks.of(1, 1);
            Check.failsWithout("ends ahead of " + from, Check.ARGUMENT, desk, () -> desk.addOutage(0, from, from - 1));
            Check.failsWithout("ends at " + from, Check.ARGUMENT, desk, () -> desk.addOutage(0, from, from));
            Check.same("a minute from " + from + " on", desk.addOutage(0, from, from + 1), 0);
        }
    }

    private static void outageTooLate() {
        Check.sentence("Promise 5", "or greater than 9999");
        int least = Integer.MIN_VALUE;
        int greatest = Integer.MAX_VALUE;
        int[][] wrong = {{0, 10000}, {9998, 10000}, {9999, 10000}, {10000, 10001}, {0, greatest}, {greatest - 1, greatest},
            {greatest, least}, {least, greatest}, {0, least}, {least, least + 1}, {65536, 65537}, {0, 65537}};
        PassDesk desk = Desks.of(1, 1);
        for (int[] span : wrong) {
            Check.failsWithout(span[0] + " to " + span[1], Check.ARGUMENT, desk,
                    () -> desk.addOutage(0, span[0], span[1]));
        }
        Check.same("all minutes, more than a pass may have", desk.addOutage(0, 0, 9999), 0);
        Check.same("the last minute", desk.addOutage(0, 9998, 9999), 0);
    }

    private static void outageRoom() {
        Check.sentence("Promise 5", "Throws IllegalStateException if there are 6 outages");
        PassDesk desk = Desks.of(2, 1);
        for (int i = 0; i < 6; i++) {
            Check.same("with " + i + " outages", desk.addOutage(0, 10, 20), 0);
        }
        Check.failsWithout("with 6 outages", Check.STATE, desk, () -> desk.addOutage(0, 30, 40));
        Check.failsWithout("with 6 outages, of another antenna", Check.STATE, desk, () -> desk.addOutage(1, 30, 40));
        desk.run(50);
        Check.failsWithout("with 6 outages that are over", Check.STATE, desk, () -> desk.addOutage(0, 50, 60));
    }

    private static void handoverBefore() {
        Check.sentence("Promise 6", "Returns the number before.");
        PassDesk desk = new PassDesk();
        Check.same("at first", desk.setHandover(60), 5);
        Check.same("the greatest", desk.setHandover(0), 60);
        Check.same("the least", desk.setHandover(0), 0);
        Check.fails("a refused one", Check.ARGUMENT, () -> desk.setHandover(61));
        Check.same("behind a refused one", desk.setHandover(5), 0);
    }

    private static void handoverRange() {
        Check.sentence("Promise 6", "Throws IllegalArgumentException if minutes is not 0 to 60");
        Check.range("minutes", Check.ARGUMENT, 0, 60, PassDesk::new, (desk, minutes) -> desk.setHandover(minutes));
    }

    private static void countWhat() {
        Check.sentence("Promise 7", "Throws IndexOutOfBoundsException if what is not 0 to 2");
        Check.range("what", Check.RANGE, 0, 2, PassDesk::new, (desk, what) -> desk.count(what));
        Check.range("what of a full desk", Check.RANGE, 0, 2, Desks::busy, (desk, what) -> desk.count(what));
    }

    private static void countAnswers() {
        Check.sentence("Promise 7", "Returns how many there are.");
        PassDesk empty = new PassDesk();
        PassDesk full = Desks.busy();
        int[] most = {5, 8, 16};
        for (int what = 0; what < 3; what++) {
            Check.same("count(" + what + ") of an empty desk", empty.count(what), 0);
            Check.same("count(" + what + ") of a full desk", full.count(what), most[what]);
        }
    }

    private static void passNoSuch() {
        Check.sentence("Promise 8", "Throws IndexOutOfBoundsException if there is no such pass");
        Check.range("pass of 3", Check.RANGE, 0, 2, () -> Desks.ofPasses(3), (desk, pass) -> desk.pass(pass, 0));
        Check.range("pass of 16", Check.RANGE, 0, 15, () -> Desks.ofPasses(16), (desk, pass) -> desk.pass(pass, 7));
        PassDesk desk = Desks.of(1, 1);
        Check.failsWithout("pass of none", Check.RANGE, desk, () -> desk.pass(0, 0));
    }

    private static void passWhat() {
        Check.sentence("Promise 8", "or what is not 0 to 7");
        Check.range("what", Check.RANGE, 0, 7, () -> Desks.ofPasses(1), (desk, what) -> desk.pass(0, what));
    }

    private static void passStart() {
        Check.sentence("Promise 8", "7 its start, -1 if it is OPEN");
        PassDesk desk = Desks.ofPasses(1);
        Check.same("OPEN", desk.pass(0, 7), -1);
        desk.take(1);
        Check.same("TAKEN, in minute 0", desk.pass(0, 7), 0);
        desk.giveUp(0);
        Check.same("OPEN again", desk.pass(0, 7), -1);
        desk.take(1);
        desk.run(9);
        Check.same("TAKEN, and over", desk.pass(0, 7), 0);
    }

    private static void passUnits() {
        Check.sentence("Promise 8", "6 the units that it brought down");
        PassDesk desk = Desks.ofPasses(2);
        Check.same("at first", desk.pass(0, 6), 0);
        desk.take(1);
        Check.same("TAKEN", desk.pass(0, 6), 0);
        desk.run(1);
        Check.same("over", desk.pass(0, 6), 1);
        desk.run(9);
        Check.same("long over", desk.pass(0, 6), 1);
        Check.same("OPEN, and over", desk.pass(1, 6), 0);
    }
}

/** A test for each sentence of "What it is" and of "Terms" that names a boundary case. */
public final class TermsTest {
    public static void main(String[] args) {
        calls512();
        minuteAtFirst();
        setsOfPasses();
        setsOfBands();
        atMost5Antennas();
        antennaNumbers();
        atMost6Outages();
        outageMinutes();
        atMost8Satellites();
        satelliteNumbers();
        memoryAtFirst();
        atMost16Passes();
        passMinutes();
        passWeight();
        openAtFirst();
        earlierPass();
        conflictOverOneAntenna();
        conflictEndNotBehind();
        conflictMinutesInCommon();
        noOtherConflict();
        canTakeOpen();
        canTakeFromNowOn();
        canTakeOutage();
        canTakeConflict();
        bestGreatestWeight();
        bestFewest();
        bestSmallestNumber();
        heardFromStartAheadOfEnd();
        startIsBegin();
        startIsLastEnd();
        gathersFirst();
        lostWithoutRoom();
        ascendingOrder();
        asManyAsAntennaCan();
        asManyAsSatelliteHas();
        noneInOutage();
        refusedCallsChangeNothing();
        refusedOutageChangesNothing();
        firstExceptionOfSeveral();
        Check.end();
    }

    private static void calls512() {
        Check.sentence("What it is", "An object is used for at most 512 calls after it has been made");
        PassDesk ran = Desks.of(0, 0);
        ran.addSatellite(0, 1, 50, 100000);
        for (int call = 2; call < 512; call++) {
            ran.run(1);
        }
        Check.same("satellite(0, 0) as the 512th call", ran.satellite(0, 0), 510 * 50);
        PassDesk refused = new PassDesk();
        for (int call = 1; call < 512; call++) {
            Check.fails("call " + call, Check.RANGE, () -> refused.canTake(0));
        }
        Check.same("addAntenna as the 512th call", refused.addAntenna(1, 0, 1), 0);
        PassDesk taken = Desks.ofPasses(1);
        for (int call = 4; call < 511; call += 2) {
            taken.take(1);
            taken.giveUp(0);
        }
        Check.same("take(1) as the 512th call", taken.take(1), 1);
    }

    private static void minuteAtFirst() {
        Check.sentence("Terms", "It is some minute, at first 0.");
        Check.same("now()", new PassDesk().now(), 0);
        PassDesk desk = Desks.of(1, 1);
        Check.same("a pass from minute 0 on", desk.addPass(0, 0, 0, 1), 0);
        Check.same("can be taken", desk.canTake(0), true);
    }

    private static void setsOfPasses() {
        Check.sentence("Terms", "Sets of passes are told as the sum of the powers 2^k of their numbers k");
        PassDesk desk = Desks.ofPasses(16);
        Check.same("no pass", desk.taken(), 0);
        Check.same("pass 15", desk.take(32768), 32768);
        Check.same("pass 15 is TAKEN", desk.pass(15, 5), 1);
        Check.same("passes 0 and 15", desk.take(1), 32769);
        Check.same("pass 0 is TAKEN", desk.pass(0, 5), 1);
        Check.same("pass 1 is OPEN", desk.pass(1, 5), 0);
        Check.same("all others as best()", desk.best(), 32766);
        Check.same("all 16", desk.take(32766), 65535);
    }

    private static void setsOfBands() {
        Check.sentence("Terms", "sets of bands in the same way");
        for (int bands = 1; bands <= 15; bands++) {
            PassDesk desk = new PassDesk();
            desk.addAntenna(bands, 0, 1);
            int heard = 0;
            for (int band = 0; band < 4; band++) {
                int satellite = desk.addSatellite(band, 1, 1, 1);
                if (bands / (1 << band) % 2 == 1) {
                    Check.same("band " + band + " of " + bands, desk.addPass(satellite, 0, 0, 1), heard);
                    heard++;
                } else {
                    Check.failsWithout("band " + band + " of " + bands, Check.ARGUMENT, desk,
                            () -> desk.addPass(satellite, 0, 0, 1));
                }
            }
        }
    }

    private static void atMost5Antennas() {
        Check.sentence("Terms, Antennas", "There are at most 5, numbered from 0 in the order of their creation.");
        PassDesk desk = new PassDesk();
        for (int i = 0; i < 5; i++) {
            Check.same("antenna", desk.addAntenna(1, 0, 1 + i), i);
        }
        Check.failsWithout("the sixth", Check.STATE, desk, () -> desk.addAntenna(1, 0, 1));
        desk.addSatellite(0, 1, 50, 1000);
        for (int i = 0; i < 5; i++) {
            desk.addPass(0, i, i, i + 1);
        }
        desk.take(31);
        for (int i = 0; i < 5; i++) {
            Check.same("antenna " + i + " brings down", desk.run(1), 1 + i);
        }
    }

    private static void antennaNumbers() {
        Check.sentence("Terms, Antennas", "An antenna hears some bands, 0 to 3, needs some minutes of set-up between "
                + "two passes, 0 to 30, and brings down some units of data a minute, 1 to 100.");
        PassDesk least = new PassDesk();
        least.addAntenna(8, 0, 1);
        least.addSatellite(3, 1, 50, 1000);
        least.addPass(0, 0, 0, 1);
        least.addPass(0, 0, 1, 2);
        Check.same("set-up 0: at the end", least.isConflict(0, 1), false);
        least.take(1);
        Check.same("rate 1", least.run(1), 1);
        PassDesk greatest = new PassDesk();
        greatest.addAntenna(15, 30, 100);
        greatest.addSatellite(3, 1, 50, 1000);
        greatest.addPass(0, 0, 3, 5);
        greatest.addPass(0, 0, 34, 35);
        greatest.addPass(0, 0, 35, 36);
        Check.same("set-up 30: a minute too early", greatest.isConflict(0, 1), true);
        Check.same("set-up 30", greatest.isConflict(0, 2), false);
        greatest.take(1);
        Check.same("rate 100, two minutes of it", greatest.run(5), 200);
    }

    private static void atMost6Outages() {
        Check.sentence("Terms, Antennas", "There are at most 6 outages");
        PassDesk desk = Desks.of(5, 0);
        for (int i = 0; i < 6; i++) {
            int antenna = i % 5;
            Check.holds("outage " + i, () -> desk.addOutage(antenna, 10, 20));
        }
        for (int i = 0; i < 5; i++) {
            int antenna = i;
            Check.failsWithout("the seventh, of antenna " + i, Check.STATE, desk, () -> desk.addOutage(antenna, 1, 2));
        }
        Desks.at(100, desk);
        Check.failsWithout("the seventh, when all are over", Check.STATE, desk, () -> desk.addOutage(0, 100, 101));
    }

    private static void outageMinutes() {
        Check.sentence("Terms, Antennas", "an outage is of one antenna, from a first minute on, ahead of another one.");
        PassDesk desk = Desks.of(3, 0);
        desk.addOutage(1, 2, 4);
        desk.addOutage(2, 0, 1);
        int[] first = {0, 0, 1, 1, 0, 0};
        int[] second = {1, 0, 0, 0, 0, 0};
        for (int minute = 0; minute < 6; minute++) {
            Check.same("antenna 0 in minute " + minute, desk.antenna(0, 2), 0);
            Check.same("antenna 1 in minute " + minute, desk.antenna(1, 2), first[minute]);
            Check.same("antenna 2 in minute " + minute, desk.antenna(2, 2), second[minute]);
            desk.run(1);
        }
    }

    private static void atMost8Satellites() {
        Check.sentence("Terms, Satellites", "There are at most 8, numbered in the same way.");
        PassDesk desk = new PassDesk();
        for (int i = 0; i < 8; i++) {
            Check.same("satellite", desk.addSatellite(0, 1, 1 + i, 100), i);
        }
        Check.failsWithout("the ninth", Check.STATE, desk, () -> desk.addSatellite(0, 1, 1, 1));
        desk.run(1);
        for (int i = 0; i < 8; i++) {
            Check.same("satellite " + i + " gathered", desk.satellite(i, 0), 1 + i);
        }
    }

    private static void satelliteNumbers() {
        Check.sentence("Terms, Satellites", "A satellite sends in one band, has a priority, 1 to 9, gathers some units "
                + "of data a minute, 0 to 50, and keeps at most so many as its memory has room for, 1 to 100000.");
        PassDesk desk = new PassDesk();
        desk.addSatellite(0, 1, 0, 1);
        desk.addSatellite(3, 9, 50, 100000);
        desk.addSatellite(3, 9, 50, 1);
        Desks.at(2000, desk);
        Check.same("gathers 0", desk.satellite(0, 0), 0);
        Check.same("gathers 50, and has room for just that", desk.satellite(1, 0), 100000);
        Check.same("has lost nothing yet", desk.satellite(1, 1), 0);
        Check.same("room for 1", desk.satellite(2, 0), 1);
        Check.same("the rest is lost", desk.satellite(2, 1), 99999);
        desk.run(1);
        Check.same("no room for more", desk.satellite(1, 0), 100000);
        Check.same("it is lost", desk.satellite(1, 1), 50);
    }

    private static void memoryAtFirst() {
        Check.sentence("Terms, Satellites", "At first it has none.");
        PassDesk desk = Desks.at(7, new PassDesk());
        desk.addSatellite(0, 1, 50, 100000);
        for (int what = 0; what < 3; what++) {
            Check.same("satellite(0, " + what + ")", desk.satellite(0, what), 0);
        }
    }

    private static void atMost16Passes() {
        Check.sentence("Terms, Passes", "There are at most 16, numbered in the same way.");
        PassDesk desk = Desks.of(1, 1);
        for (int i = 0; i < 16; i++) {
            Check.same("pass", desk.addPass(0, 0, 20 - i, 22), i);
        }
        Check.failsWithout("the 17th", Check.STATE, desk, () -> desk.addPass(0, 0, 30, 31));
        for (int i = 0; i < 16; i++) {
            Check.same("begin of pass " + i, desk.pass(i, 2), 20 - i);
        }
        Desks.at(50, desk);
        Check.failsWithout("the 17th, when all are over", Check.STATE, desk, () -> desk.addPass(0, 0, 50, 51));
    }

    private static void passMinutes() {
        Check.sentence("Terms, Passes", "A pass is of a satellite over an antenna that hears its band, from its begin "
                + "on, ahead of its end (at most 600 minutes).");
        PassDesk desk = Desks.of(1, 1);
        Check.same("600 minutes", desk.addPass(0, 0, 2, 602), 0);
        Check.failsWithout("601 minutes", Check.ARGUMENT, desk, () -> desk.addPass(0, 0, 2, 603));
        desk.take(1);
        desk.run(1);
        Check.same("ahead of its begin", desk.run(1), 0);
        Check.same("its first minute", desk.run(1), 1);
        desk.run(500);
        desk.run(98);
        Check.same("its last minute", desk.run(1), 1);
        Check.same("its end", desk.run(1), 0);
        Check.same("a unit each minute", desk.pass(0, 6), 600);
    }

    private static void passWeight() {
        Check.sentence("Terms, Passes", "Its weight is the priority of the satellite times the number of its minutes.");
        PassDesk desk = Desks.of(1, 1);
        desk.addSatellite(0, 9, 0, 1);
        desk.addPass(0, 0, 9998, 9999);
        desk.addPass(1, 0, 100, 700);
        Check.same("the least", desk.pass(0, 4), 1);
        Check.same("the greatest", desk.pass(1, 4), 5400);
    }

    private static void openAtFirst() {
        Check.sentence("Terms, Passes", "A pass is OPEN (0, at first) or TAKEN (1).");
        PassDesk desk = Desks.ofPasses(1);
        Check.same("at first", desk.pass(0, 5), 0);
        desk.take(1);
        Check.same("TAKEN", desk.pass(0, 5), 1);
        desk.giveUp(0);
        Check.same("OPEN again", desk.pass(0, 5), 0);
    }

    private static void earlierPass() {
        Check.sentence("Terms, Passes", "Of two passes, the earlier one is the one with the smaller begin; of the same "
                + "begin the one with the smaller number.");
        PassDesk desk = Desks.of(4, 1);
        desk.setHandover(60);
        desk.addPass(0, 0, 11, 22);
        desk.addPass(0, 1, 10, 21);
        desk.addPass(0, 2, 10, 23);
        desk.addPass(0, 3, 11, 21);
        Check.same("the greater number begins earlier, and ends ahead", desk.isConflict(0, 1), false);
        Check.same("the greater number begins earlier, and ends behind", desk.isConflict(0, 2), true);
        Check.same("the same begin, the greater number ends behind", desk.isConflict(1, 2), false);
        Check.same("the same begin, told the other way round", desk.isConflict(2, 1), false);
        Check.same("the same begin, the greater number ends ahead", desk.isConflict(0, 3), true);
        desk.take(6);
        Check.same("the same begin: pass 1 is earlier", desk.pass(1, 7), 10);
        Check.same("the same begin: pass 2 is later", desk.pass(2, 7), 21);
    }

    private static void conflictOverOneAntenna() {
        Check.sentence("Terms, Passes", "Two passes over the same antenna are in conflict if the later one begins ahead "
                + "of the end of the earlier one plus the set-up.");
        for (int setUp : new int[] {0, 1, 30}) {
            PassDesk desk = new PassDesk();
            desk.addAntenna(1, setUp, 1);
            desk.addSatellite(0, 1, 1, 100);
            desk.addSatellite(0, 1, 1, 100);
            desk.addPass(0, 0, 10, 20);
            desk.addPass(1, 0, 19 + setUp, 60);
            desk.addPass(1, 0, 20 + setUp, 60);
            desk.addPass(0, 0, 19 + setUp, 60);
            desk.addPass(0, 0, 20 + setUp, 60);
            for (int other = 1; other < 5; other++) {
                Check.same("set-up " + setUp + ", pass " + other, desk.isConflict(0, other), other % 2 == 1);
                Check.same("set-up " + setUp + ", pass " + other + " first", desk.isConflict(other, 0), other % 2 == 1);
            }
        }
    }

    private static void conflictEndNotBehind() {
        Check.sentence("Terms, Passes", "Two passes of the same satellite over different antennas are in conflict if the "
                + "later one does not end behind the end of the earlier one");
        PassDesk desk = Desks.of(2, 1);
        desk.addPass(0, 0, 10, 20);
        desk.addPass(0, 1, 18, 19);
        desk.addPass(0, 1, 18, 20);
        desk.addPass(0, 1, 18, 21);
        Check.same("it ends ahead", desk.isConflict(0, 1), true);
        Check.same("the same end", desk.isConflict(0, 2), true);
        Check.same("it ends behind", desk.isConflict(0, 3), false);
        desk.setHandover(60);
        Check.same("the same end, with a long handover", desk.isConflict(2, 0), true);
    }

    private static void conflictMinutesInCommon() {
        Check.sentence("Terms, Passes", "or if they have more minutes in common than a handover may take (at first 5).");
        PassDesk desk = Desks.of(2, 1);
        desk.addPass(0, 0, 100, 200);
        for (int common : new int[] {0, 1, 5, 6, 60, 61}) {
            desk.addPass(0, 1, 200 - common, 201);
        }
        boolean[] due = {false, false, false, true, true, true};
        for (int i = 0; i < 6; i++) {
            Check.same("at first, pass " + (i + 1), desk.isConflict(0, i + 1), due[i]);
        }
        desk.setHandover(0);
        for (int i = 0; i < 6; i++) {
            Check.same("0 minutes, pass " + (i + 1), desk.isConflict(0, i + 1), i > 0);
        }
        desk.setHandover(60);
        for (int i = 0; i < 6; i++) {
            Check.same("60 minutes, pass " + (i + 1), desk.isConflict(i + 1, 0), i == 5);
        }
    }

    private static void noOtherConflict() {
        Check.sentence("Terms, Passes", "Others are in no conflict.");
        PassDesk desk = new PassDesk();
        desk.addAntenna(1, 30, 1);
        desk.addAntenna(1, 30, 1);
        desk.addSatellite(0, 1, 1, 1);
        desk.addSatellite(0, 1, 1, 1);
        desk.setHandover(0);
        desk.addPass(0, 0, 10, 20);
        desk.addPass(1, 1, 10, 20);
        desk.addPass(1, 1, 12, 18);
        desk.addPass(0, 1, 20, 21);
        Check.same("another satellite, another antenna, the same minutes", desk.isConflict(0, 1), false);
        Check.same("another satellite, another antenna, within", desk.isConflict(2, 0), false);
        Check.same("the same satellite behind the end, within the other antenna's set-up", desk.isConflict(0, 3), false);
    }

    private static void canTakeOpen() {
        Check.sentence("Terms, Passes", "A pass can be taken if it is OPEN");
        PassDesk desk = Desks.ofPasses(2);
        Check.same("OPEN", desk.canTake(1), true);
        desk.take(2);
        Check.same("TAKEN", desk.canTake(1), false);
        desk.giveUp(1);
        Check.same("OPEN again", desk.canTake(1), true);
    }

    private static void canTakeFromNowOn() {
        Check.sentence("Terms, Passes", "begins now or later");
        PassDesk desk = Desks.of(1, 1);
        desk.addPass(0, 0, 9, 30);
        int[] due = {1, 1, 0, 0};
        for (int i = 0; i < due.length; i++) {
            Desks.at(8 + i, desk);
            Check.same("in minute " + desk.now(), desk.canTake(0), due[i] == 1);
            Check.same("best() in minute " + desk.now(), desk.best(), due[i]);
        }
    }

    private static void canTakeOutage() {
        Check.sentence("Terms, Passes", "has no minute in common with an outage of its antenna");
        int[][] outages = {{0, 5, 10, 1}, {0, 5, 11, 0}, {0, 20, 25, 1}, {0, 19, 25, 0}, {0, 14, 15, 0}, {0, 5, 25, 0},
            {0, 10, 20, 0}, {1, 5, 25, 1}};
        for (int[] outage : outages) {
            PassDesk desk = Desks.of(2, 1);
            desk.addPass(0, 0, 10, 20);
            desk.addOutage(outage[0], outage[1], outage[2]);
            Check.same("an outage of antenna " + outage[0] + " from " + outage[1] + " to " + outage[2], desk.canTake(0),
                    outage[3] == 1);
        }
    }

    private static void canTakeConflict() {
        Check.sentence("Terms, Passes", "is in conflict with no pass that is TAKEN.");
        PassDesk desk = Desks.of(2, 1);
        desk.addPass(0, 0, 10, 20);
        desk.addPass(0, 0, 19, 30);
        desk.addPass(0, 0, 20, 30);
        desk.addPass(0, 1, 14, 30);
        desk.addPass(0, 1, 15, 30);
        Check.same("in conflict with OPEN ones alone", desk.canTake(1), true);
        desk.take(1);
        Check.same("over the same antenna, a minute in common", desk.canTake(1), false);
        Check.same("over the same antenna, just behind", desk.canTake(2), true);
        Check.same("of the same satellite, 6 minutes in common", desk.canTake(3), false);
        Check.same("of the same satellite, 5 minutes in common", desk.canTake(4), true);
        desk.setHandover(6);
        Check.same("a longer handover", desk.canTake(3), true);
        desk.setHandover(4);
        Check.same("a shorter handover", desk.canTake(4), false);
    }

    private static void bestGreatestWeight() {
        Check.sentence("Terms, Passes", "The best set is the set of passes each of which can be taken, no two of which "
                + "are in conflict, with the greatest sum of weights");
        PassDesk desk = Desks.of(1, 1);
        Check.same("of no passes", desk.best(), 0);
        desk.addPass(0, 0, 10, 20);
        Check.same("of one", desk.best(), 1);
        desk.addPass(0, 0, 19, 30);
        Check.same("11 against 10", desk.best(), 2);
        desk.addPass(0, 0, 8, 10);
        Check.same("11 and 2 against 10 and 2", desk.best(), 6);
        desk.addPass(0, 0, 20, 22);
        desk.addOutage(0, 25, 26);
        Check.same("without the one that cannot be taken", desk.best(), 13);
        desk.take(4);
        desk.run(9);
        Check.same("without the TAKEN one", desk.best(), 9);
        Desks.at(21, desk);
        Check.same("none can be taken", desk.best(), 0);
    }

    private static void bestFewest() {
        Check.sentence("Terms, Passes", "of several the one with the fewest passes");
        PassDesk desk = Desks.of(1, 1);
        desk.addPass(0, 0, 10, 14);
        desk.addPass(0, 0, 14, 17);
        desk.addPass(0, 0, 17, 20);
        desk.addPass(0, 0, 13, 20);
        Check.same("4, 3 and 3 against 7, which is less", desk.best(), 7);
        desk.addPass(0, 0, 14, 20);
        Check.same("4 and 6 against 4, 3 and 3", desk.best(), 17);
        desk.addPass(0, 0, 10, 20);
        Check.same("10 alone, of the greatest number", desk.best(), 32);
    }

    private static void bestSmallestNumber() {
        Check.sentence("Terms, Passes", "of several the one that is told by the smallest number.");
        PassDesk alike = Desks.of(1, 1);
        for (int i = 0; i < 16; i++) {
            alike.addPass(0, 0, 10, 20);
        }
        Check.same("one of 16 alike", alike.best(), 1);
        PassDesk desk = Desks.of(1, 1);
        desk.addPass(0, 0, 10, 20);
        desk.addPass(0, 0, 15, 20);
        desk.addPass(0, 0, 10, 15);
        desk.addPass(0, 0, 20, 25);
        desk.addPass(0, 0, 20, 30);
        desk.addPass(0, 0, 25, 30);
        Check.same("0 and 4, both alone in their minutes", desk.best(), 17);
        PassDesk cross = Desks.of(1, 1);
        cross.addPass(0, 0, 10, 12);
        cross.addPass(0, 0, 11, 14);
        cross.addPass(0, 0, 14, 16);
        cross.addPass(0, 0, 13, 16);
        // 0 with 3 is 2 + 3, told by 9; 1 with 2 is 3 + 2, told by 6
        Check.same("1 and 2 ahead of 0 and 3", cross.best(), 6);
        PassDesk late = Desks.of(1, 1);
        late.addPass(0, 0, 30, 40);
        late.addPass(0, 0, 15, 25);
        late.addPass(0, 0, 10, 20);
        Check.same("0 and 1, though 2 begins first", late.best(), 3);
    }

    private static void heardFromStartAheadOfEnd() {
        Check.sentence("Terms, Passes", "A pass that is TAKEN is heard from its start on, ahead of its end.");
        PassDesk desk = Desks.of(3, 1);
        desk.addPass(0, 0, 2, 6);
        desk.addPass(0, 1, 4, 8);
        desk.addPass(0, 2, 8, 10);
        desk.take(3);
        int[] first = {-1, -1, 0, 0, 0, 0, -1, -1, -1, -1};
        int[] second = {-1, -1, -1, -1, -1, -1, 1, 1, -1, -1};
        for (int minute = 0; minute < first.length; minute++) {
            Check.same("over antenna 0 in minute " + minute, desk.antenna(0, 0), first[minute]);
            Check.same("over antenna 1 in minute " + minute, desk.antenna(1, 0), second[minute]);
            Check.same("an OPEN one in minute " + minute, desk.antenna(2, 0), -1);
            Check.same("what comes down in minute " + minute, desk.run(1), first[minute] + second[minute] > -2 ? 1 : 0);
        }
    }

    private static void startIsBegin() {
        Check.sentence("Terms, Passes", "Its start is its begin");
        PassDesk desk = Desks.of(4, 2);
        desk.setHandover(20);
        desk.addPass(0, 0, 0, 10);
        desk.addPass(0, 1, 10, 30);
        Check.same("of an OPEN one it is -1", desk.pass(1, 7), -1);
        desk.take(2);
        Check.same("an earlier one is OPEN", desk.pass(1, 7), 10);
        desk.take(1);
        Check.same("an earlier one ends at its begin", desk.pass(1, 7), 10);
        desk.addPass(1, 2, 5, 25);
        desk.take(4);
        Check.same("an earlier one of another satellite", desk.pass(1, 7), 10);
        desk.addPass(0, 3, 10, 31);
        desk.take(8);
        Check.same("a later one of the same begin", desk.pass(1, 7), 10);
    }

    private static void startIsLastEnd() {
        Check.sentence("Terms, Passes", "but if there are passes of the same satellite that are TAKEN, earlier, and end "
                + "behind its begin, it is the last one of their ends (this is a handover).");
        PassDesk desk = Desks.of(5, 1);
        desk.setHandover(60);
        desk.addPass(0, 0, 0, 20);
        desk.addPass(0, 1, 15, 30);
        desk.addPass(0, 2, 2, 21);
        desk.addPass(0, 3, 1, 16);
        desk.addPass(0, 4, 0, 15);
        desk.take(2);
        Check.same("none of them is TAKEN", desk.pass(1, 7), 15);
        desk.take(8);
        Check.same("an end a minute behind its begin", desk.pass(1, 7), 16);
        Check.failsWithout("it ends ahead of an earlier one", Check.STATE, desk, () -> desk.take(1));
        desk.giveUp(3);
        desk.take(1);
        Check.same("another end", desk.pass(1, 7), 20);
        desk.take(4);
        Check.same("the last one of two ends", desk.pass(1, 7), 21);
        Check.same("the first end alone", desk.pass(2, 7), 20);
        Check.same("no handover", desk.pass(0, 7), 0);
        desk.giveUp(2);
        Check.same("the end that is left", desk.pass(1, 7), 20);
    }

    private static void gathersFirst() {
        Check.sentence("Terms", "When a minute passes, first each satellite gathers its units");
        PassDesk desk = new PassDesk();
        desk.addAntenna(1, 0, 100);
        desk.addSatellite(0, 1, 7, 7);
        desk.addPass(0, 0, 0, 2);
        desk.take(1);
        Check.same("what it gathers in the very minute comes down", desk.run(1), 7);
        Check.same("and nothing is left", desk.satellite(0, 0), 0);
        Check.same("as in the next one", desk.run(1), 7);
        Check.same("nothing is lost", desk.satellite(0, 1), 0);
    }

    private static void lostWithoutRoom() {
        Check.sentence("Terms", "what has no room in its memory is lost.");
        PassDesk desk = new PassDesk();
        desk.addAntenna(1, 0, 2);
        desk.addSatellite(0, 1, 5, 10);
        desk.addSatellite(0, 1, 5, 9);
        desk.addPass(0, 0, 2, 3);
        desk.take(1);
        desk.run(2);
        Check.same("just full", desk.satellite(0, 0), 10);
        Check.same("nothing lost yet", desk.satellite(0, 1), 0);
        Check.same("full", desk.satellite(1, 0), 9);
        Check.same("one lost", desk.satellite(1, 1), 1);
        desk.run(1);
        Check.same("all of a minute is lost, though room is made behind it", desk.satellite(0, 1), 5);
        Check.same("room was made", desk.satellite(0, 0), 8);
        desk.run(1);
        Check.same("room for two", desk.satellite(0, 0), 10);
        Check.same("three more are lost", desk.satellite(0, 1), 8);
    }

    private static void ascendingOrder() {
        Check.sentence("Terms", "Then, in ascending order, each pass that is TAKEN and heard in this minute brings down");
        PassDesk desk = new PassDesk();
        for (int i = 0; i < 4; i++) {
            desk.addAntenna(1, 0, 1 + i);
        }
        for (int i = 0; i < 4; i++) {
            desk.addSatellite(0, 1, 10, 1000);
        }
        for (int i = 0; i < 4; i++) {
            desk.addPass(3 - i, i, 0, 5);
        }
        desk.take(11);
        Check.same("each that is TAKEN", desk.run(1), 1 + 2 + 4);
        int[] due = {1, 2, 0, 4};
        for (int i = 0; i < 4; i++) {
            Check.same("by pass " + i, desk.pass(i, 6), due[i]);
            Check.same("from satellite " + (3 - i), desk.satellite(3 - i, 2), due[i]);
        }
    }

    private static void asManyAsAntennaCan() {
        Check.sentence("Terms", "as many units as its antenna can");
        for (int rate : new int[] {1, 9, 10, 50, 100}) {
            PassDesk desk = new PassDesk();
            desk.addAntenna(1, 0, rate);
            desk.addSatellite(0, 1, 50, 1000);
            desk.addPass(0, 0, 3, 4);
            desk.take(1);
            Check.same("rate " + rate, desk.run(5), rate);
            Check.same("kept at rate " + rate, desk.satellite(0, 0), 250 - rate);
        }
    }

    private static void asManyAsSatelliteHas() {
        Check.sentence("Terms", "or as the satellite has if these are fewer");
        for (int gathers : new int[] {0, 1, 9, 10, 11}) {
            PassDesk desk = new PassDesk();
            desk.addAntenna(1, 0, 10);
            desk.addSatellite(0, 1, gathers, 1000);
            desk.addPass(0, 0, 0, 1);
            desk.take(1);
            Check.same("gathers " + gathers, desk.run(1), Math.min(10, gathers));
            Check.same("kept of " + gathers, desk.satellite(0, 0), gathers == 11 ? 1 : 0);
        }
    }

    private static void noneInOutage() {
        Check.sentence("Terms", "but none if its antenna has an outage in this minute.");
        PassDesk desk = Desks.of(2, 2);
        desk.addPass(0, 0, 0, 9);
        desk.addPass(1, 1, 0, 9);
        desk.take(3);
        desk.addOutage(0, 2, 5);
        desk.addOutage(0, 4, 6);
        desk.addOutage(1, 8, 20);
        int[] due = {2, 2, 1, 1, 1, 1, 2, 2, 1, 0};
        for (int minute = 0; minute < due.length; minute++) {
            Check.same("in minute " + minute, desk.run(1), due[minute]);
        }
        Check.same("by pass 0", desk.pass(0, 6), 5);
        Check.same("by pass 1", desk.pass(1, 6), 8);
    }

    private static void refusedCallsChangeNothing() {
        Check.sentence("Terms", "A method that throws an exception changes nothing.");
        PassDesk desk = Desks.busy();
        PassDesk twin = Desks.busy();
        Check.failsWithout("addAntenna, wrong", Check.ARGUMENT, desk, () -> desk.addAntenna(0, 0, 1));
        Check.failsWithout("addAntenna, full", Check.STATE, desk, () -> desk.addAntenna(1, 0, 1));
        Check.failsWithout("addSatellite, wrong", Check.ARGUMENT, desk, () -> desk.addSatellite(0, 0, 0, 1));
        Check.failsWithout("addSatellite, full", Check.STATE, desk, () -> desk.addSatellite(0, 1, 0, 1));
        Check.failsWithout("addPass, of none", Check.RANGE, desk, () -> desk.addPass(8, 0, 30, 40));
        Check.failsWithout("addPass, wrong", Check.ARGUMENT, desk, () -> desk.addPass(0, 0, 19, 40));
        Check.failsWithout("addPass, full", Check.STATE, desk, () -> desk.addPass(0, 0, 30, 40));
        Check.failsWithout("addOutage, of none", Check.RANGE, desk, () -> desk.addOutage(5, 30, 40));
        Check.failsWithout("addOutage, wrong", Check.ARGUMENT, desk, () -> desk.addOutage(0, 19, 40));
        Check.failsWithout("addOutage, full", Check.STATE, desk, () -> desk.addOutage(0, 20, 40));
        Check.failsWithout("setHandover", Check.ARGUMENT, desk, () -> desk.setHandover(61));
        Check.failsWithout("count", Check.RANGE, desk, () -> desk.count(3));
        Check.failsWithout("pass", Check.RANGE, desk, () -> desk.pass(0, 8));
        Check.failsWithout("isConflict, of none", Check.RANGE, desk, () -> desk.isConflict(0, 16));
        Check.failsWithout("isConflict, the same", Check.ARGUMENT, desk, () -> desk.isConflict(1, 1));
        Check.failsWithout("canTake", Check.RANGE, desk, () -> desk.canTake(16));
        Check.failsWithout("weight", Check.ARGUMENT, desk, () -> desk.weight(65536));
        Check.failsWithout("take, of none", Check.ARGUMENT, desk, () -> desk.take(0x11000));
        Check.failsWithout("take, one cannot be taken", Check.STATE, desk, () -> desk.take(0x1040));
        Check.failsWithout("take, two in conflict", Check.STATE, desk, () -> desk.take(0x1C00));
        Check.failsWithout("giveUp, of none", Check.RANGE, desk, () -> desk.giveUp(16));
        Check.failsWithout("giveUp, OPEN", Check.STATE, desk, () -> desk.giveUp(12));
        Check.failsWithout("giveUp, it began", Check.STATE, desk, () -> desk.giveUp(0));
        Check.failsWithout("handovers", Check.RANGE, desk, () -> desk.handovers(8));
        Check.failsWithout("run, wrong", Check.ARGUMENT, desk, () -> desk.run(501));
        Check.failsWithout("satellite", Check.RANGE, desk, () -> desk.satellite(8, 0));
        Check.failsWithout("antenna", Check.RANGE, desk, () -> desk.antenna(0, 4));
        Check.same("the set that can be taken", desk.take(desk.best()), twin.take(twin.best()));
        for (int i = 0; i < 45; i++) {
            Check.same("run(2) behind refused calls", desk.run(2), twin.run(2));
            Check.same("the desk behind refused calls", Check.state(desk), Check.state(twin));
        }
        Desks.at(9990, desk);
        Desks.at(9990, twin);
        Check.failsWithout("run, too late", Check.STATE, desk, () -> desk.run(10));
        Check.same("run(9) behind it", desk.run(9), twin.run(9));
        Check.same("the desk at its end", Check.state(desk), Check.state(twin));
    }

    private static void refusedOutageChangesNothing() {
        Check.sentence("Terms", "A method that throws an exception changes nothing.");
        PassDesk desk = Desks.of(1, 1);
        desk.run(5);
        desk.addPass(0, 0, 10, 20);
        desk.addPass(0, 0, 9988, 9999);
        Check.fails("from before now", Check.ARGUMENT, () -> desk.addOutage(0, 4, 20));
        Check.fails("no minute", Check.ARGUMENT, () -> desk.addOutage(0, 12, 12));
        Check.fails("too late", Check.ARGUMENT, () -> desk.addOutage(0, 9990, 10000));
        Check.fails("of no antenna", Check.RANGE, () -> desk.addOutage(1, 10, 20));
        Check.same("pass 0 has no outage", desk.canTake(0), true);
        Check.same("pass 1 has no outage", desk.canTake(1), true);
        for (int i = 0; i < 6; i++) {
            Check.same("room for six", desk.addOutage(0, 30, 40), 0);
        }
        Check.fails("the seventh", Check.STATE, () -> desk.addOutage(0, 10, 20));
        Check.same("pass 0 has no outage still", desk.canTake(0), true);
        desk.take(1);
        Check.same("and is heard without one", desk.run(20), 10);
    }

    private static void firstExceptionOfSeveral() {
        Check.sentence("Terms", "If several exceptions apply, the one that is named first is thrown.");
        PassDesk desk = Desks.busy();
        Check.failsWithout("addAntenna", Check.ARGUMENT, desk, () -> desk.addAntenna(1, 31, 1));
        Check.failsWithout("addSatellite", Check.ARGUMENT, desk, () -> desk.addSatellite(0, 1, 0, 100001));
        Check.failsWithout("addPass: satellite, minutes, room", Check.RANGE, desk, () -> desk.addPass(8, 0, 1, 1));
        Check.failsWithout("addPass: antenna, minutes, room", Check.RANGE, desk, () -> desk.addPass(0, 5, 1, 1));
        Check.failsWithout("addPass: satellite, room", Check.RANGE, desk, () -> desk.addPass(-1, 0, 30, 31));
        Check.failsWithout("addPass: minutes, room", Check.ARGUMENT, desk, () -> desk.addPass(0, 0, 30, 30));
        Check.failsWithout("addPass: band, room", Check.ARGUMENT, desk, () -> desk.addPass(3, 4, 30, 31));
        Check.failsWithout("addOutage: antenna, minutes, room", Check.RANGE, desk, () -> desk.addOutage(5, 1, 1));
        Check.failsWithout("addOutage: antenna, room", Check.RANGE, desk, () -> desk.addOutage(-1, 30, 31));
        Check.failsWithout("addOutage: minutes, room", Check.ARGUMENT, desk, () -> desk.addOutage(0, 30, 30));
        Check.failsWithout("isConflict: no pass, the same", Check.RANGE, desk, () -> desk.isConflict(16, 16));
        Check.failsWithout("isConflict: no pass, the same", Check.RANGE, desk, () -> desk.isConflict(-1, -1));
        Check.failsWithout("take: no pass, TAKEN", Check.ARGUMENT, desk, () -> desk.take(65537));
        Check.failsWithout("take: no pass, conflict", Check.ARGUMENT, desk, () -> desk.take(0x10C00));
        Check.failsWithout("take: no pass, all passes", Check.ARGUMENT, desk, () -> desk.take(-1));
        Desks.at(9999, desk);
        Check.failsWithout("run: minutes, too late", Check.ARGUMENT, desk, () -> desk.run(501));
        Check.failsWithout("run: minutes, too late", Check.ARGUMENT, desk, () -> desk.run(Integer.MAX_VALUE));
    }
}

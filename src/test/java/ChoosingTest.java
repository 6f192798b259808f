/** Promises 9 to 16: conflicts, what can be taken, the best set, taking and giving up. */
public final class ChoosingTest {
    public static void main(String[] args) {
        promise9SameAntenna();
        promise9SameSatellite();
        promise9OthersAndWrong();
        promise10CanTake();
        promise10Outages();
        promise11BestOfPairs();
        promise11FewestThenSmallest();
        promise11OnlyWhatCanBeTaken();
        promise11SixteenPasses();
        promise12Weight();
        promise13Take();
        promise13TakeFails();
        promise14GiveUp();
        promise15Taken();
        promise16Handovers();
        promise16ChainOfHandovers();
        Check.end();
    }

    /** Antennas 0 to 2 hear all bands, with set-ups of 4, 0 and 30; satellites 0 to 2 have priorities 1, 2 and 3. */
    private static PassDesk desk() {
        PassDesk desk = new PassDesk();
        desk.addAntenna(15, 4, 10);
        desk.addAntenna(15, 0, 10);
        desk.addAntenna(15, 30, 10);
        desk.addSatellite(0, 1, 1, 1000);
        desk.addSatellite(1, 2, 1, 1000);
        desk.addSatellite(2, 3, 1, 1000);
        return desk;
    }

    private static void conflict(String what, PassDesk desk, int a, int b, boolean due) {
        Check.same(what, desk.isConflict(a, b), due);
        Check.same(what + ", the other way round", desk.isConflict(b, a), due);
    }

    private static void promise9SameAntenna() {
        PassDesk desk = desk();
        desk.addPass(0, 0, 10, 20);
        desk.addPass(1, 0, 23, 30);
        desk.addPass(1, 0, 24, 30);
        desk.addPass(0, 0, 23, 25);
        desk.addPass(0, 0, 24, 25);
        desk.addPass(2, 0, 0, 6);
        desk.addPass(2, 0, 0, 7);
        conflict("a minute ahead of the set-up", desk, 0, 1, true);
        conflict("just behind the set-up", desk, 0, 2, false);
        conflict("the same satellite within the set-up", desk, 0, 3, true);
        conflict("the same satellite behind the set-up", desk, 0, 4, false);
        conflict("the set-up behind the earlier one", desk, 5, 0, false);
        conflict("the set-up behind the earlier one", desk, 6, 0, true);
        conflict("the same begin", desk, 5, 6, true);
        desk.setHandover(60);
        conflict("a handover is of no use over the same antenna", desk, 1, 2, true);
        desk.addPass(0, 1, 10, 20);
        desk.addPass(1, 1, 20, 21);
        desk.addPass(1, 1, 19, 21);
        conflict("no set-up at all", desk, 7, 8, false);
        conflict("no set-up, a minute in common", desk, 7, 9, true);
        desk.addPass(0, 2, 10, 20);
        desk.addPass(1, 2, 49, 51);
        desk.addPass(1, 2, 50, 51);
        conflict("the longest set-up", desk, 10, 11, true);
        conflict("the longest set-up", desk, 10, 12, false);
    }

    private static void promise9SameSatellite() {
        PassDesk desk = desk();
        desk.addPass(0, 0, 10, 20);
        desk.addPass(0, 1, 15, 25);
        desk.addPass(0, 1, 14, 25);
        desk.addPass(0, 1, 17, 20);
        desk.addPass(0, 1, 17, 19);
        desk.addPass(0, 1, 17, 21);
        desk.addPass(0, 1, 20, 21);
        desk.addPass(0, 2, 10, 20);
        desk.addPass(0, 2, 10, 21);
        conflict("five minutes in common", desk, 0, 1, false);
        conflict("six minutes in common", desk, 0, 2, true);
        conflict("the same end", desk, 0, 3, true);
        conflict("an end ahead", desk, 0, 4, true);
        conflict("an end behind", desk, 0, 5, false);
        conflict("one behind the other", desk, 0, 6, false);
        conflict("the same minutes", desk, 0, 7, true);
        desk.setHandover(10);
        conflict("six minutes are few now", desk, 0, 2, false);
        conflict("the same begin: the smaller number is earlier", desk, 0, 8, false);
        desk.addPass(0, 1, 10, 19);
        conflict("the same begin: the later one ends ahead", desk, 0, 9, true);
        desk.setHandover(0);
        conflict("no handover at all, three in common", desk, 0, 5, true);
        conflict("no handover at all, none in common", desk, 0, 6, false);
    }

    private static void promise9OthersAndWrong() {
        PassDesk desk = desk();
        desk.addPass(0, 0, 10, 20);
        desk.addPass(1, 1, 10, 20);
        conflict("other satellites over other antennas", desk, 0, 1, false);
        int[][] none = {{0, 2}, {2, 0}, {-1, 0}, {0, -1}, {2, 2}, {-1, -1}, {Integer.MAX_VALUE, 0},
            {0, Integer.MIN_VALUE}};
        for (int[] n : none) {
            Check.failsWithout("isConflict(" + n[0] + ", " + n[1] + ")", Check.RANGE, desk,
                    () -> desk.isConflict(n[0], n[1]));
        }
        Check.failsWithout("isConflict(1, 1)", Check.ARGUMENT, desk, () -> desk.isConflict(1, 1));
    }

    private static void promise10CanTake() {
        PassDesk desk = desk();
        desk.addPass(0, 0, 10, 20);
        desk.addPass(1, 0, 23, 30);
        desk.addPass(1, 1, 30, 40);
        Check.same("OPEN and free", desk.canTake(0), true);
        Check.same("in conflict with an OPEN one", desk.canTake(1), true);
        desk.take(1);
        Check.same("TAKEN", desk.canTake(0), false);
        Check.same("in conflict with a TAKEN one", desk.canTake(1), false);
        Check.same("in conflict with none", desk.canTake(2), true);
        desk.giveUp(0);
        Check.same("given up", desk.canTake(0), true);
        Check.same("free again", desk.canTake(1), true);
        desk.run(10);
        Check.same("begins now", desk.canTake(0), true);
        desk.run(1);
        Check.same("began before now", desk.canTake(0), false);
        for (int wrong : new int[] {-1, 3, 16, Integer.MIN_VALUE, Integer.MAX_VALUE}) {
            Check.failsWithout("canTake(" + wrong + ")", Check.RANGE, desk, () -> desk.canTake(wrong));
        }
    }

    private static void promise10Outages() {
        PassDesk desk = desk();
        desk.addPass(0, 0, 10, 20);
        desk.addPass(0, 1, 10, 20);
        desk.addOutage(0, 5, 10);
        desk.addOutage(0, 20, 30);
        Check.same("outages ahead and behind", desk.canTake(0), true);
        desk.addOutage(1, 19, 20);
        Check.same("an outage in the last minute", desk.canTake(1), false);
        Check.same("an outage of another antenna", desk.canTake(0), true);
        desk.addOutage(0, 0, 11);
        Check.same("an outage in the first minute", desk.canTake(0), false);
        desk.addPass(2, 2, 10, 20);
        Check.same("no outage", desk.canTake(2), true);
        desk.addOutage(2, 14, 15);
        Check.same("an outage in the midst", desk.canTake(2), false);
    }

    private static void promise11BestOfPairs() {
        PassDesk desk = desk();
        Check.same("of none", desk.best(), 0);
        PassDesk lone = desk();
        lone.addPass(0, 0, 10, 11);
        Check.same("of one of weight 1", lone.best(), 1);
        desk.addPass(0, 0, 10, 20);
        desk.addPass(2, 0, 15, 18);
        Check.same("10 against 9", desk.best(), 1);
        desk.addPass(2, 0, 24, 25);
        Check.same("10 and 3 against 9 and 3", desk.best(), 5);
        desk.addPass(1, 0, 22, 25);
        Check.same("9 and 6 against 10 and 3", desk.best(), 10);
        desk.addPass(0, 1, 40, 41);
        Check.same("and 1 more", desk.best(), 26);
        Check.same("nothing is taken by best()", desk.taken(), 0);
    }

    private static void promise11FewestThenSmallest() {
        PassDesk desk = desk();
        desk.addPass(0, 1, 10, 15);
        desk.addPass(0, 1, 15, 20);
        desk.addPass(0, 1, 10, 20);
        Check.same("one pass of 10 ahead of two of 5", desk.best(), 4);
        desk.addPass(0, 1, 10, 20);
        Check.same("the smaller number", desk.best(), 4);
        desk.addPass(0, 1, 9, 20);
        Check.same("the greater weight", desk.best(), 16);
        PassDesk two = desk();
        two.addPass(0, 1, 10, 20);
        two.addPass(1, 0, 50, 60);
        two.addPass(0, 1, 11, 21);
        two.addPass(1, 0, 51, 61);
        Check.same("the smaller set of two", two.best(), 3);
        PassDesk three = desk();
        three.addPass(0, 1, 10, 20);
        three.addPass(0, 1, 20, 30);
        three.addPass(0, 1, 15, 25);
        three.addPass(0, 1, 25, 35);
        Check.same("0 and 1 told by 3, 2 and 3 by 12", three.best(), 3);
        PassDesk cross = desk();
        cross.addPass(0, 1, 10, 20);
        cross.addPass(1, 1, 20, 24);
        cross.addPass(1, 1, 12, 20);
        cross.addPass(1, 1, 20, 21);
        // 0 with 1: 10 + 8; 2 with 1: 16 + 8
        Check.same("2 with 1", cross.best(), 6);
    }

    private static void promise11OnlyWhatCanBeTaken() {
        PassDesk desk = desk();
        desk.addPass(2, 0, 10, 20);
        desk.addPass(1, 0, 21, 40);
        desk.addPass(0, 0, 50, 60);
        desk.addPass(0, 1, 0, 5);
        Check.same("all that is free", desk.best(), 14);
        desk.take(1);
        Check.same("without the TAKEN and its conflicts", desk.best(), 12);
        desk.addOutage(0, 59, 61);
        Check.same("without the outage", desk.best(), 8);
        desk.run(1);
        Check.same("without what began", desk.best(), 0);
        desk.giveUp(0);
        Check.same("given up", desk.best(), 2);
    }

    private static void promise11SixteenPasses() {
        PassDesk free = desk();
        for (int i = 0; i < 16; i++) {
            free.addPass(i % 3, i % 2, 100 * i, 100 * i + 10);
        }
        Check.same("all sixteen", free.best(), 65535);
        PassDesk tight = desk();
        for (int i = 0; i < 16; i++) {
            tight.addPass(0, 1, 10 * (i / 2) + i % 2, 10 * (i / 2) + 8 + i % 2);
        }
        Check.same("one of each pair, all alike", tight.best(), 0x5555);
        PassDesk chain = desk();
        for (int i = 0; i < 16; i++) {
            chain.addPass(0, 1, 5 * i, 5 * i + 10);
        }
        Check.same("each second one", chain.best(), 0x5555);
    }

    private static void promise12Weight() {
        PassDesk desk = desk();
        Check.same("of no pass", desk.weight(0), 0);
        Check.failsWithout("weight(1) of none", Check.ARGUMENT, desk, () -> desk.weight(1));
        Check.failsWithout("weight(-1) of none", Check.ARGUMENT, desk, () -> desk.weight(-1));
        desk.addPass(0, 0, 10, 17);
        desk.addPass(1, 0, 10, 20);
        desk.addPass(2, 0, 10, 30);
        int[] due = {0, 7, 20, 27, 60, 67, 80, 87};
        for (int set = 0; set < 8; set++) {
            Check.same("weight(" + set + ")", desk.weight(set), due[set]);
        }
        desk.take(4);
        Check.same("of TAKEN ones, too", desk.weight(6), 80);
        for (int wrong : new int[] {8, 9, 15, 65536, -1, -8, Integer.MIN_VALUE, Integer.MAX_VALUE}) {
            Check.failsWithout("weight(" + wrong + ")", Check.ARGUMENT, desk, () -> desk.weight(wrong));
        }
        for (int i = 3; i < 16; i++) {
            desk.addPass(2, 0, 10, 610);
        }
        Check.same("of all", desk.weight(65535), 87 + 13 * 1800);
        for (int wrong : new int[] {65536, -1, Integer.MIN_VALUE, Integer.MIN_VALUE + 1, -65536}) {
            Check.failsWithout("weight(" + wrong + ") of 16", Check.ARGUMENT, desk, () -> desk.weight(wrong));
        }
    }

    private static void promise13Take() {
        PassDesk desk = desk();
        Check.same("of no pass", desk.take(0), 0);
        desk.addPass(0, 0, 10, 20);
        desk.addPass(1, 1, 10, 20);
        desk.addPass(0, 0, 24, 30);
        desk.addPass(2, 2, 9, 15);
        Check.same("two at once", desk.take(6), 6);
        for (int i = 0; i < 4; i++) {
            Check.same("TAKEN " + i, desk.pass(i, 5), i == 1 || i == 2 ? 1 : 0);
        }
        Check.same("one more", desk.take(1), 7);
        Check.same("nothing more", desk.take(0), 7);
        desk.run(9);
        Check.same("it begins now", desk.take(8), 15);
    }

    private static void promise13TakeFails() {
        PassDesk desk = desk();
        Check.failsWithout("take(1) of none", Check.ARGUMENT, desk, () -> desk.take(1));
        Check.failsWithout("take(-1) of none", Check.ARGUMENT, desk, () -> desk.take(-1));
        desk.addPass(0, 0, 10, 20);
        desk.addPass(1, 0, 15, 25);
        desk.addPass(0, 0, 40, 50);
        desk.addPass(1, 1, 60, 70);
        desk.addPass(2, 2, 5, 8);
        desk.addOutage(1, 69, 71);
        Check.failsWithout("two of them in conflict", Check.STATE, desk, () -> desk.take(7));
        Check.failsWithout("an outage", Check.STATE, desk, () -> desk.take(9));
        Check.same("nothing taken", desk.taken(), 0);
        desk.take(1);
        Check.failsWithout("TAKEN already", Check.STATE, desk, () -> desk.take(5));
        Check.failsWithout("in conflict with a TAKEN one", Check.STATE, desk, () -> desk.take(6));
        for (int wrong : new int[] {32, 33, 38, -1, Integer.MIN_VALUE, Integer.MAX_VALUE}) {
            Check.failsWithout("take(" + wrong + ")", Check.ARGUMENT, desk, () -> desk.take(wrong));
        }
        desk.run(6);
        Check.failsWithout("it began before now", Check.STATE, desk, () -> desk.take(20));
        Check.same("only one is taken", desk.taken(), 1);
        Check.same("the other one can be", desk.take(4), 5);
    }

    private static void promise14GiveUp() {
        PassDesk desk = desk();
        desk.addPass(0, 0, 10, 20);
        desk.addPass(1, 1, 10, 20);
        desk.addPass(2, 2, 30, 40);
        desk.addPass(0, 1, 50, 60);
        desk.take(7);
        Check.same("giveUp(1)", desk.giveUp(1), 5);
        Check.same("OPEN again", desk.pass(1, 5), 0);
        Check.same("no start", desk.pass(1, 7), -1);
        Check.failsWithout("OPEN", Check.STATE, desk, () -> desk.giveUp(1));
        Check.failsWithout("never taken", Check.STATE, desk, () -> desk.giveUp(3));
        Check.same("taken again", desk.take(2), 7);
        desk.run(10);
        Check.same("it begins now", desk.giveUp(1), 5);
        desk.run(1);
        Check.failsWithout("it began before now", Check.STATE, desk, () -> desk.giveUp(0));
        Check.failsWithout("OPEN, and it began", Check.STATE, desk, () -> desk.giveUp(1));
        Check.same("one to come", desk.giveUp(2), 1);
        desk.run(50);
        Check.failsWithout("long over", Check.STATE, desk, () -> desk.giveUp(0));
        for (int wrong : new int[] {-1, 4, 16, Integer.MIN_VALUE, Integer.MAX_VALUE}) {
            Check.failsWithout("giveUp(" + wrong + ")", Check.RANGE, desk, () -> desk.giveUp(wrong));
        }
    }

    private static void promise15Taken() {
        PassDesk desk = desk();
        Check.same("of none", desk.taken(), 0);
        for (int i = 0; i < 16; i++) {
            desk.addPass(i % 3, 1, 20 * i, 20 * i + 20);
        }
        Check.same("none yet", desk.taken(), 0);
        desk.take(0x8001);
        Check.same("the first and the last", desk.taken(), 0x8001);
        desk.take(0x7FFE);
        Check.same("all", desk.taken(), 0xFFFF);
        desk.giveUp(3);
        Check.same("without one", desk.taken(), 0xFFF7);
        desk.run(400);
        Check.same("still TAKEN when over", desk.taken(), 0xFFF7);
    }

    private static void promise16Handovers() {
        PassDesk desk = desk();
        desk.addPass(0, 0, 10, 20);
        desk.addPass(0, 1, 15, 25);
        desk.addPass(0, 2, 25, 30);
        desk.addPass(1, 1, 30, 40);
        Check.same("none taken", desk.handovers(0), 0);
        desk.take(2);
        Check.same("the other one is OPEN", desk.handovers(0), 0);
        Check.same("its begin", desk.pass(1, 7), 15);
        desk.take(13);
        Check.same("one; an end at the begin is none", desk.handovers(0), 1);
        Check.same("no start of its own", desk.pass(0, 7), 10);
        Check.same("the end of the earlier one", desk.pass(1, 7), 20);
        Check.same("an end at the begin", desk.pass(2, 7), 25);
        Check.same("another satellite", desk.handovers(1), 0);
        Check.same("a satellite without passes", desk.handovers(2), 0);
        desk.setHandover(0);
        Check.same("TAKEN is TAKEN", desk.handovers(0), 1);
        Check.same("but now in conflict", desk.isConflict(0, 1), true);
        desk.giveUp(0);
        Check.same("given up", desk.handovers(0), 0);
        Check.same("its begin again", desk.pass(1, 7), 15);
        for (int wrong : new int[] {-1, 3, Integer.MIN_VALUE, Integer.MAX_VALUE}) {
            Check.failsWithout("handovers(" + wrong + ")", Check.RANGE, desk, () -> desk.handovers(wrong));
        }
    }

    private static void promise16ChainOfHandovers() {
        PassDesk desk = desk();
        desk.setHandover(60);
        desk.addPass(1, 2, 12, 40);
        desk.addPass(1, 0, 10, 20);
        desk.addPass(1, 1, 11, 30);
        desk.addPass(0, 1, 30, 35);
        desk.take(15);
        Check.same("the first", desk.pass(1, 7), 10);
        Check.same("behind the first", desk.pass(2, 7), 20);
        Check.same("behind the last end of both", desk.pass(0, 7), 30);
        Check.same("two handovers", desk.handovers(1), 2);
        Check.same("none of the other satellite", desk.handovers(0), 0);
        desk.giveUp(2);
        Check.same("behind the one that is left", desk.pass(0, 7), 20);
        PassDesk alike = desk();
        alike.setHandover(60);
        alike.addPass(0, 0, 10, 20);
        alike.addPass(0, 1, 10, 21);
        alike.take(3);
        Check.same("the same begin, the smaller number", alike.pass(0, 7), 10);
        Check.same("the same begin, the greater number", alike.pass(1, 7), 20);
    }
}

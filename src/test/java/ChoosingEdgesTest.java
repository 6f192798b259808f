/** A test for each sentence of the promises 9 to 16 that names a boundary case. */
public final class ChoosingEdgesTest {
    public static void main(String[] args) {
        conflictOfNone();
        conflictOfTheSame();
        canTakeOfNone();
        bestOfNone();
        bestOfAll();
        bestChangesNothing();
        weightOfNone();
        weightOfAll();
        weightOfNoPass();
        weightWrapAround();
        takeNone();
        takeAll();
        takeNoPass();
        takeOneTaken();
        takeOneThatBegan();
        takeOneWithOutage();
        takeOneInConflict();
        takeTwoInConflict();
        giveUpAnswer();
        giveUpIsOpen();
        giveUpOfNone();
        giveUpOpen();
        giveUpBegan();
        takenOfNone();
        takenOfAll();
        handoversAnswer();
        handoversOfNone();
        Check.end();
    }

    private static void conflictOfNone() {
        Check.sentence("Promise 9", "Throws IndexOutOfBoundsException if there is no such pass");
        // A pass is asked against pass 0, and pass 0 against pass 1, so that no pass is asked against itself.
        Check.range("b of 4", Check.RANGE, 0, 3, () -> Desks.ofPasses(4),
                (desk, b) -> desk.isConflict(b == 0 ? 1 : 0, b));
        Check.range("a of 4", Check.RANGE, 0, 3, () -> Desks.ofPasses(4),
                (desk, a) -> desk.isConflict(a, a == 0 ? 1 : 0));
        Check.range("a of 16", Check.RANGE, 0, 15, () -> Desks.ofPasses(16), (desk, a) -> desk.isConflict(a, 7));
        Check.range("b of 16", Check.RANGE, 0, 15, () -> Desks.ofPasses(16), (desk, b) -> desk.isConflict(7, b));
        PassDesk desk = Desks.ofPasses(4);
        Check.failsWithout("both are none", Check.RANGE, desk, () -> desk.isConflict(4, 5));
    }

    private static void conflictOfTheSame() {
        Check.sentence("Promise 9", "Throws IllegalArgumentException if they are the same pass");
        PassDesk desk = Desks.ofPasses(16);
        for (int pass : new int[] {0, 1, 15}) {
            Check.failsWithout("isConflict(" + pass + ", " + pass + ")", Check.ARGUMENT, desk,
                    () -> desk.isConflict(pass, pass));
        }
        PassDesk alike = Desks.of(1, 1);
        alike.addPass(0, 0, 10, 20);
        alike.addPass(0, 0, 10, 20);
        Check.same("two that are alike are not the same", alike.isConflict(0, 1), true);
    }

    private static void canTakeOfNone() {
        Check.sentence("Promise 10", "Throws IndexOutOfBoundsException if there is no such pass");
        Check.range("pass of 3", Check.RANGE, 0, 2, () -> Desks.ofPasses(3), (desk, pass) -> desk.canTake(pass));
        Check.range("pass of 16", Check.RANGE, 0, 15, () -> Desks.ofPasses(16), (desk, pass) -> desk.canTake(pass));
        PassDesk desk = Desks.of(5, 8);
        Check.failsWithout("pass of none", Check.RANGE, desk, () -> desk.canTake(0));
    }

    private static void bestOfNone() {
        Check.sentence("Promise 11", "Returns the best set.");
        Check.same("of a new desk", new PassDesk().best(), 0);
        Check.same("without passes", Desks.of(5, 8).best(), 0);
        PassDesk taken = Desks.ofPasses(16);
        taken.take(65535);
        Check.same("all are TAKEN", taken.best(), 0);
        Check.same("all began", Desks.at(16, Desks.ofPasses(16)).best(), 0);
        Check.same("all but the last one began", Desks.at(15, Desks.ofPasses(16)).best(), 32768);
        PassDesk out = Desks.ofPasses(16);
        out.addOutage(0, 0, 16);
        Check.same("all have an outage", out.best(), 0);
        PassDesk one = Desks.ofPasses(16);
        one.addOutage(0, 0, 7);
        one.addOutage(0, 8, 16);
        Check.same("all but one have an outage", one.best(), 128);
    }

    private static void bestOfAll() {
        Check.sentence("Promise 11", "Returns the best set.");
        Check.same("one of one", Desks.ofPasses(1).best(), 1);
        Check.same("all of 16", Desks.ofPasses(16).best(), 65535);
        PassDesk greatest = Desks.of(1, 0);
        greatest.addSatellite(0, 9, 0, 1);
        for (int i = 0; i < 16; i++) {
            greatest.addPass(0, 0, 600 * i, 600 * i + 600 - (i == 15 ? 1 : 0));
        }
        Check.same("all of 16 of the greatest weight", greatest.best(), 65535);
        PassDesk light = Desks.of(1, 1);
        light.addSatellite(0, 9, 0, 1);
        for (int i = 0; i < 15; i++) {
            light.addPass(0, 0, i, i + 1);
        }
        light.addPass(1, 0, 0, 2);
        Check.same("18 against 1 and 1", light.best(), 0b1111111111111100);
    }

    private static void bestChangesNothing() {
        Check.sentence("Promise 11", "Returns the best set.");
        PassDesk desk = Desks.ofPasses(16);
        Check.same("best()", desk.best(), 65535);
        Check.same("nothing is TAKEN", desk.taken(), 0);
        desk.take(0xFF);
        Check.same("what is left", desk.best(), 0xFF00);
        desk.giveUp(0);
        Check.same("as a new search", desk.best(), 0xFF01);
    }

    private static void weightOfNone() {
        Check.sentence("Promise 12", "Returns the sum of the weights of its passes.");
        Check.same("weight(0) of a new desk", new PassDesk().weight(0), 0);
        Check.same("weight(0) of 16 passes", Desks.ofPasses(16).weight(0), 0);
    }

    private static void weightOfAll() {
        Check.sentence("Promise 12", "Returns the sum of the weights of its passes.");
        PassDesk desk = Desks.of(1, 0);
        desk.addSatellite(0, 9, 0, 1);
        for (int i = 0; i < 15; i++) {
            desk.addPass(0, 0, 0, 600);
        }
        desk.addPass(0, 0, 0, 1);
        Check.same("all, though they are in conflict", desk.weight(65535), 15 * 5400 + 9);
        Check.same("the last one", desk.weight(32768), 9);
        Check.same("the first one", desk.weight(1), 5400);
        desk.take(1);
        desk.run(50);
        Check.same("all, though one is TAKEN and all began", desk.weight(65535), 15 * 5400 + 9);
    }

    private static void weightOfNoPass() {
        Check.sentence("Promise 12", "Throws IllegalArgumentException if passes contains something that is no pass");
        Check.range("of no passes", Check.ARGUMENT, 0, 0, PassDesk::new, (desk, set) -> desk.weight(set));
        Check.range("of 1 pass", Check.ARGUMENT, 0, 1, () -> Desks.ofPasses(1), (desk, set) -> desk.weight(set));
        Check.range("of 15 passes", Check.ARGUMENT, 0, 32767, () -> Desks.ofPasses(15), (desk, set) -> desk.weight(set));
        Check.range("of 16 passes", Check.ARGUMENT, 0, 65535, () -> Desks.ofPasses(16), (desk, set) -> desk.weight(set));
    }

    private static void weightWrapAround() {
        Check.sentence("Promise 12", "passes contains something that is no pass");
        for (int passes : new int[] {0, 1, 3, 16}) {
            PassDesk desk = Desks.ofPasses(passes);
            for (int k = passes; k < 32; k++) {
                int set = 1 << k;
                Check.fails("only " + k + " of " + passes, Check.ARGUMENT, () -> desk.weight(set));
                Check.fails("all and " + k + " of " + passes, Check.ARGUMENT, () -> desk.weight(set + (1 << passes) - 1));
            }
            Check.fails("-1 of " + passes, Check.ARGUMENT, () -> desk.weight(-1));
        }
    }

    private static void takeNone() {
        Check.sentence("Promise 13", "Returns the set of all passes that are TAKEN then.");
        Check.same("take(0) of a new desk", new PassDesk().take(0), 0);
        PassDesk desk = Desks.ofPasses(16);
        Check.same("take(0)", desk.take(0), 0);
        desk.take(5);
        Check.same("take(0) behind take(5)", desk.take(0), 5);
        Desks.at(9999, desk);
        Check.same("take(0) in the last minute", desk.take(0), 5);
    }

    private static void takeAll() {
        Check.sentence("Promise 13", "Takes passes: they are TAKEN.");
        PassDesk desk = Desks.ofPasses(16);
        Check.same("take(65535)", desk.take(65535), 65535);
        for (int i = 0; i < 16; i++) {
            Check.same("TAKEN: " + i, desk.pass(i, 5), 1);
        }
        PassDesk last = Desks.of(1, 1);
        last.addPass(0, 0, 9998, 9999);
        Desks.at(9998, last);
        Check.same("in the last minute that can be heard", last.take(1), 1);
        Check.same("it is heard", last.run(1), 1);
    }

    private static void takeNoPass() {
        Check.sentence("Promise 13", "Throws IllegalArgumentException if passes contains something that is no pass");
        Check.range("of no passes", Check.ARGUMENT, 0, 0, PassDesk::new, (desk, set) -> desk.take(set));
        Check.range("of 1 pass", Check.ARGUMENT, 0, 1, () -> Desks.ofPasses(1), (desk, set) -> desk.take(set));
        Check.range("of 15 passes", Check.ARGUMENT, 0, 32767, () -> Desks.ofPasses(15), (desk, set) -> desk.take(set));
        Check.range("of 16 passes", Check.ARGUMENT, 0, 65535, () -> Desks.ofPasses(16), (desk, set) -> desk.take(set));
        PassDesk desk = Desks.ofPasses(3);
        for (int k = 3; k < 32; k++) {
            int set = 1 + (1 << k);
            Check.failsWithout("0 and " + k, Check.ARGUMENT, desk, () -> desk.take(set));
        }
    }

    private static void takeOneTaken() {
        Check.sentence("Promise 13", "Throws IllegalStateException if one of them cannot be taken");
        PassDesk desk = Desks.ofPasses(16);
        desk.take(32768);
        Check.failsWithout("it alone is TAKEN", Check.STATE, desk, () -> desk.take(32768));
        Check.failsWithout("the last one is TAKEN", Check.STATE, desk, () -> desk.take(65535));
        Check.same("the others", desk.take(32767), 65535);
        Check.failsWithout("all are TAKEN", Check.STATE, desk, () -> desk.take(65535));
    }

    private static void takeOneThatBegan() {
        Check.sentence("Promise 13", "Throws IllegalStateException if one of them cannot be taken");
        PassDesk desk = Desks.ofPasses(16);
        desk.run(1);
        Check.failsWithout("the first one began", Check.STATE, desk, () -> desk.take(65535));
        Check.failsWithout("it alone", Check.STATE, desk, () -> desk.take(1));
        Check.same("all that begin now or later", desk.take(65534), 65534);
    }

    private static void takeOneWithOutage() {
        Check.sentence("Promise 13", "Throws IllegalStateException if one of them cannot be taken");
        PassDesk desk = Desks.ofPasses(16);
        desk.addOutage(0, 7, 8);
        Check.failsWithout("one has an outage", Check.STATE, desk, () -> desk.take(65535));
        Check.failsWithout("it alone", Check.STATE, desk, () -> desk.take(128));
        Check.same("all others", desk.take(65535 - 128), 65535 - 128);
    }

    private static void takeOneInConflict() {
        Check.sentence("Promise 13", "Throws IllegalStateException if one of them cannot be taken");
        PassDesk desk = Desks.of(1, 1);
        desk.addPass(0, 0, 10, 20);
        desk.addPass(0, 0, 30, 40);
        desk.addPass(0, 0, 15, 16);
        desk.take(4);
        Check.failsWithout("one is in conflict with a TAKEN one", Check.STATE, desk, () -> desk.take(3));
        Check.same("the other one", desk.take(2), 6);
        desk.giveUp(2);
        Check.same("the TAKEN one was given up", desk.take(1), 3);
    }

    private static void takeTwoInConflict() {
        Check.sentence("Promise 13", "or two of them are in conflict");
        PassDesk desk = Desks.of(2, 1);
        desk.addPass(0, 0, 10, 20);
        desk.addPass(0, 0, 19, 30);
        desk.addPass(0, 0, 20, 30);
        desk.addPass(0, 1, 14, 25);
        desk.addPass(0, 1, 15, 25);
        for (int set : new int[] {3, 9, 11, 6, 31}) {
            Check.failsWithout("take(" + set + ")", Check.STATE, desk, () -> desk.take(set));
        }
        Check.same("just no conflict, over the same antenna", desk.take(5), 5);
        desk.giveUp(0);
        desk.giveUp(2);
        Check.same("just no conflict, of the same satellite", desk.take(17), 17);
        PassDesk ends = Desks.ofPasses(14);
        ends.addPass(0, 0, 50, 60);
        ends.addPass(0, 0, 59, 61);
        Check.failsWithout("the last two of 16", Check.STATE, ends, () -> ends.take(65535));
        Check.same("without the last one", ends.take(32767), 32767);
    }

    private static void giveUpAnswer() {
        Check.sentence("Promise 14", "Returns the set of all passes that are TAKEN then.");
        PassDesk desk = Desks.ofPasses(16);
        desk.take(65535);
        Check.same("the first", desk.giveUp(0), 65534);
        Check.same("the last", desk.giveUp(15), 32766);
        desk.take(1);
        for (int i = 1; i < 15; i++) {
            desk.giveUp(i);
        }
        Check.same("the only one", desk.giveUp(0), 0);
    }

    private static void giveUpIsOpen() {
        Check.sentence("Promise 14", "Gives a pass up: it is OPEN again.");
        PassDesk desk = taken(16);
        desk.giveUp(15);
        Check.same("OPEN", desk.pass(15, 5), 0);
        Check.same("no start", desk.pass(15, 7), -1);
        Check.same("can be taken", desk.canTake(15), true);
        Check.same("and is TAKEN again", desk.take(32768), 65535);
    }

    private static void giveUpOfNone() {
        Check.sentence("Promise 14", "Throws IndexOutOfBoundsException if there is no such pass");
        Check.range("pass of 3", Check.RANGE, 0, 2, () -> taken(3), (desk, pass) -> desk.giveUp(pass));
        Check.range("pass of 16", Check.RANGE, 0, 15, () -> taken(16), (desk, pass) -> desk.giveUp(pass));
        PassDesk desk = Desks.of(5, 8);
        Check.failsWithout("pass of none", Check.RANGE, desk, () -> desk.giveUp(0));
    }

    private static PassDesk taken(int passes) {
        PassDesk desk = Desks.ofPasses(passes);
        desk.take((1 << passes) - 1);
        return desk;
    }

    private static void giveUpOpen() {
        Check.sentence("Promise 14", "Throws IllegalStateException if it is OPEN");
        PassDesk desk = Desks.ofPasses(2);
        Check.failsWithout("never TAKEN", Check.STATE, desk, () -> desk.giveUp(1));
        desk.take(3);
        desk.giveUp(1);
        Check.failsWithout("given up already", Check.STATE, desk, () -> desk.giveUp(1));
        Check.same("the other one", desk.giveUp(0), 0);
    }

    private static void giveUpBegan() {
        Check.sentence("Promise 14", "or it began before now");
        PassDesk later = Desks.of(1, 1);
        later.addPass(0, 0, 3, 9);
        later.take(1);
        later.run(2);
        Check.same("a minute ahead of its begin", later.giveUp(0), 0);
        later.take(1);
        later.run(1);
        Check.same("it begins now", later.giveUp(0), 0);
        later.take(1);
        later.run(1);
        Check.failsWithout("it began a minute ago", Check.STATE, later, () -> later.giveUp(0));
        later.run(5);
        Check.failsWithout("it ends now", Check.STATE, later, () -> later.giveUp(0));
        Desks.at(9999, later);
        Check.failsWithout("long over", Check.STATE, later, () -> later.giveUp(0));
        PassDesk handed = Desks.of(2, 1);
        handed.addPass(0, 0, 0, 9);
        handed.addPass(0, 1, 5, 20);
        handed.take(3);
        handed.run(6);
        Check.failsWithout("it began, though its start is to come", Check.STATE, handed, () -> handed.giveUp(1));
    }

    private static void takenOfNone() {
        Check.sentence("Promise 15", "Returns the set of the passes that are TAKEN.");
        Check.same("of a new desk", new PassDesk().taken(), 0);
        Check.same("of 16 OPEN ones", Desks.ofPasses(16).taken(), 0);
    }

    private static void takenOfAll() {
        Check.sentence("Promise 15", "Returns the set of the passes that are TAKEN.");
        PassDesk desk = taken(16);
        Check.same("of 16", desk.taken(), 65535);
        Desks.at(9999, desk);
        Check.same("of 16 that are over", desk.taken(), 65535);
    }

    private static void handoversAnswer() {
        Check.sentence("Promise 16", "Returns how many handovers it has: passes of it that are TAKEN, and whose start is "
                + "not their begin.");
        PassDesk desk = Desks.of(3, 2);
        Check.same("without passes", desk.handovers(0), 0);
        desk.addPass(0, 0, 0, 20);
        desk.addPass(0, 1, 19, 30);
        desk.addPass(0, 2, 30, 40);
        Check.same("all are OPEN", desk.handovers(0), 0);
        desk.take(6);
        Check.same("an end at a begin", desk.handovers(0), 0);
        desk.take(1);
        Check.same("an end a minute behind a begin", desk.handovers(0), 1);
        Check.same("of the other satellite", desk.handovers(1), 0);
        desk.run(100);
        Check.same("when all is over", desk.handovers(0), 1);
        PassDesk chain = Desks.of(2, 1);
        PassDesk back = Desks.of(2, 1);
        for (int i = 0; i < 16; i++) {
            chain.addPass(0, i % 2, 10 * i, 10 * i + 11);
            back.addPass(0, i % 2, 150 - 10 * i, 161 - 10 * i);
        }
        Check.same("a chain of 16", chain.take(65535), 65535);
        Check.same("15 handovers, none of the first pass", chain.handovers(0), 15);
        Check.same("a chain of 16, told from its end on", back.take(65535), 65535);
        Check.same("15 handovers, none of the last pass", back.handovers(0), 15);
    }

    private static void handoversOfNone() {
        Check.sentence("Promise 16", "Throws IndexOutOfBoundsException if there is no such satellite");
        Check.range("satellite of 3", Check.RANGE, 0, 2, () -> Desks.of(0, 3), (desk, number) -> desk.handovers(number));
        Check.range("satellite of 8", Check.RANGE, 0, 7, () -> Desks.of(0, 8), (desk, number) -> desk.handovers(number));
        PassDesk desk = Desks.of(5, 0);
        Check.failsWithout("satellite of none", Check.RANGE, desk, () -> desk.handovers(0));
    }
}

import java.util.ArrayList;
import java.util.List;

/** Counts and prints the answers that are not due; a test class ends with Check.end(). */
final class Check {
    static final Class<?> RANGE = IndexOutOfBoundsException.class;
    static final Class<?> ARGUMENT = IllegalArgumentException.class;
    static final Class<?> STATE = IllegalStateException.class;

    interface Call {
        void make();
    }

    /** Makes a new desk, so that no desk is used for more calls than the document promises. */
    interface Made {
        PassDesk make();
    }

    interface Tried {
        void make(PassDesk desk, int number);
    }

    private static int made = 0;
    private static int wrong = 0;
    private static int sentences = 0;
    private static int madeAhead = 0;
    private static String sentence = "";

    private Check() {
    }

    /** What follows, up to the next sentence, is the test of these words of the document. */
    static void sentence(String where, String words) {
        endSentence();
        sentence = where + ": " + words;
        sentences++;
        madeAhead = made;
    }

    private static void endSentence() {
        if (!sentence.isEmpty() && made == madeAhead) {
            tell("the sentence is not tested");
        }
    }

    static void same(String what, long got, long due) {
        made++;
        if (got != due) {
            tell(what + " answered " + got + ", due is " + due);
        }
    }

    static void same(String what, boolean got, boolean due) {
        same(what, got ? 1 : 0, due ? 1 : 0);
    }

    static void same(String what, double got, double due) {
        made++;
        if (got != due) {
            tell(what + " answered " + got + ", due is " + due);
        }
    }

    static void same(String what, String got, String due) {
        made++;
        if (!got.equals(due)) {
            tell(what + " answered " + got + ", due is " + due);
        }
    }

    /** The call throws just this exception, and by a throw of the desk's own. */
    static void fails(String what, Class<?> due, Call call) {
        same(what + " threw, and it", outcome(call), due.getSimpleName());
    }

    static void holds(String what, Call call) {
        same(what + " threw, and it", outcome(call), "nothing");
    }

    private static String outcome(Call call) {
        try {
            call.make();
        } catch (RuntimeException e) {
            return nameOf(e);
        }
        return "nothing";
    }

    /** The exception's name; what the library throws gets another one, so that it is never due. */
    static String nameOf(RuntimeException e) {
        StackTraceElement[] calls = e.getStackTrace();
        boolean own = calls.length > 0 && !calls[0].getClassName().contains(".");
        return e.getClass().getSimpleName() + (own ? "" : " of the library");
    }

    /** The call throws just this exception, and the desk is then as it was. */
    static void failsWithout(String what, Class<?> due, PassDesk desk, Call call) {
        String before = state(desk);
        fails(what, due, call);
        same("what the desk tells behind " + what, state(desk), before);
    }

    /** What a desk tells in few calls: nearly all of it is in the digest, outages to come are in the best set. */
    static String state(PassDesk desk) {
        return "digest " + desk.digest() + ", best " + desk.best() + ", share " + desk.share();
    }

    /** The numbers outside of the range are refused and change nothing; its least and its greatest are not refused. */
    static void range(String what, Class<?> due, int least, int greatest, Made desks, Tried tried) {
        for (int number : outside(least, greatest)) {
            PassDesk desk = desks.make();
            failsWithout(what + " " + number, due, desk, () -> tried.make(desk, number));
        }
        holds(what + " " + least, () -> tried.make(desks.make(), least));
        holds(what + " " + greatest, () -> tried.make(desks.make(), greatest));
    }

    /** The numbers next to the range, the farthest, and such as would be in it if they were cut to fewer bits. */
    private static List<Integer> outside(int least, int greatest) {
        List<Integer> numbers = new ArrayList<>(List.of(least - 1, greatest + 1, -greatest - 1, Integer.MIN_VALUE,
                Integer.MIN_VALUE + least, Integer.MAX_VALUE, Integer.MAX_VALUE - 1));
        for (int bits : new int[] {4, 5, 8, 16, 17, 24}) {
            numbers.add(least + (1 << bits));
            numbers.add(least - (1 << bits));
        }
        numbers.removeIf(number -> number >= least && number <= greatest);
        return numbers;
    }

    private static void tell(String text) {
        wrong++;
        System.out.println("  " + (sentence.isEmpty() ? "" : "[" + sentence + "] ") + text);
    }

    static void end() {
        endSentence();
        System.out.println("  " + made + " answers" + (sentences == 0 ? "" : " of " + sentences + " sentences") + ", "
                + wrong + " of them not as due");
        if (wrong != 0 || made == 0) {
            System.exit(1);
        }
    }
}

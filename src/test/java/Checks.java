import java.lang.reflect.InvocationTargetException;
import java.lang.reflect.Method;
import java.util.Arrays;
import java.util.List;
import java.util.NoSuchElementException;
import java.util.function.Consumer;
import java.util.function.ObjIntConsumer;
import java.util.function.Supplier;

/** What the tests of the document's sentences share; they extend this class. */
abstract class Checks {
    static final Class<IndexOutOfBoundsException> INDEX = IndexOutOfBoundsException.class;
    static final Class<IllegalArgumentException> ARGUMENT = IllegalArgumentException.class;
    static final Class<IllegalStateException> STATE = IllegalStateException.class;
    static final Class<NoSuchElementException> MISSING = NoSuchElementException.class;
    static final Class<ArithmeticException> ARITHMETIC = ArithmeticException.class;
    static final int LAST_TICK = 30000;
    static final int LAST_TIME = 40000000;

    private static int wrong = 0;
    private static String test = "";

    /** Runs every test of a class, and ends the program with 1 if one is not as due. */
    static void run(Class<?> tests) throws IllegalAccessException {
        int count = 0;
        for (Method method : tests.getDeclaredMethods()) {
            if (method.isAnnotationPresent(Sentence.class)) {
                test = method.getName();
                count++;
                try {
                    method.invoke(null);
                } catch (InvocationTargetException e) {
                    tell("stopped with " + e.getCause() + " " + Arrays.toString(e.getCause().getStackTrace()));
                }
            }
        }
        System.out.println(tests.getName() + ": " + (wrong == 0 ? "all " + count + " tests are as due" : wrong + " faults"));
        if (wrong != 0 || count == 0) {
            System.exit(1);
        }
    }

    private static void tell(String fault) {
        String line = StackWalker.getInstance().walk(frames -> frames
                .filter(f -> !f.getClassName().equals("Checks")).map(f -> f.toStackTraceElement().toString())
                .findFirst().orElse(""));
        wrong++;
        System.out.println(test + " (" + line + "): " + fault);
    }

    // ---- what is due

    static void due(double want, double got) {
        if (want != got) {
            tell("answered " + got + ", due is " + want);
        }
    }

    static void due(boolean want, boolean got) {
        if (want != got) {
            tell("answered " + got + ", due is " + want);
        }
    }

    static void due(String want, String got) {
        if (!want.equals(got)) {
            tell("answered " + got + ", due is " + want);
        }
    }

    /** Two objects that cannot be told apart; both are of no use afterwards. */
    static void same(PatternSequencer want, PatternSequencer got) {
        List<String> due = Portrait.of(want);
        List<String> found = Portrait.of(got);
        for (int k = 0; k < Math.min(due.size(), found.size()); k++) {
            if (!due.get(k).equals(found.get(k))) {
                tell("the object answers " + found.get(k) + ", due is " + due.get(k));
                return;
            }
        }
        due(due.size(), found.size());
    }

    /** The call throws an exception of just this class. */
    static void thrown(Class<? extends RuntimeException> kind, PatternSequencer x, Consumer<PatternSequencer> call) {
        String got = "nothing";
        try {
            call.accept(x);
        } catch (RuntimeException e) {
            if (e.getClass() == kind) {
                return;
            }
            got = e.toString();
        }
        tell("threw " + got + ", due is " + kind.getSimpleName());
    }

    /** The call throws an exception of just this class, and leaves the object as it was. */
    static void refused(Class<? extends RuntimeException> kind, Supplier<PatternSequencer> maker,
            Consumer<PatternSequencer> call) {
        PatternSequencer x = maker.get();
        thrown(kind, x, call);
        same(maker.get(), x);
    }

    /** Each number outside of a range is refused: those next to it, and the least and the greatest of all. */
    static void refusedOutside(int low, int high, Class<? extends RuntimeException> kind,
            Supplier<PatternSequencer> maker, ObjIntConsumer<PatternSequencer> call) {
        for (int number : new int[] {low - 1, high + 1, Integer.MIN_VALUE, Integer.MAX_VALUE}) {
            refused(kind, maker, x -> call.accept(x, number));
        }
    }

    // ---- objects to begin with

    static void type(PatternSequencer x, String text) {
        for (char sign : text.toCharArray()) {
            x.append(sign);
        }
    }

    static PatternSequencer typed(String text) {
        PatternSequencer x = new PatternSequencer();
        type(x, text);
        return x;
    }

    static String text(PatternSequencer x, int pattern) {
        StringBuilder all = new StringBuilder();
        int length = x.describe(pattern, -1);
        for (int k = 0; k < length; k++) {
            all.append((char) x.describe(pattern, k));
        }
        return all.toString();
    }

    /** Something of everything, so that a call is seen that changes what it should not. */
    static PatternSequencer rich() {
        return rich(true, "r2,n5");
    }

    static PatternSequencer rich(boolean isSaved, String input) {
        PatternSequencer x = new PatternSequencer();
        x.addNote(0, 60, 2, 5);
        x.addRest(0, 3);
        x.addNote(0, 70, 4, 9);
        x.addCall(1, 0, 2);
        x.addNote(1, 40, 1, 1);
        x.addClip(3, 1, 1, 5, 1);
        if (isSaved) {
            x.save();
        }
        type(x, "r1,bad");
        thrown(ARGUMENT, x, y -> y.read(0));
        x.addClip(0, 0, 2, -5, 2);
        x.setTempo(4, 50);
        x.setTempo(9, 120);
        x.setSwing(30);
        x.setVoices(2);
        x.setRule(1);
        x.setEnvelope(1, 10, 20, 60, 300);
        x.setPriority(2, 6);
        x.moveClip(1, 2);
        type(x, input);
        return x;
    }

    /** Pattern k, for k below 4, is one note with a length in ticks, the pitch 10 times k plus 10, and velocity k + 1. */
    static PatternSequencer withNotes(int length) {
        PatternSequencer x = new PatternSequencer();
        for (int k = 0; k < 4; k++) {
            x.addNote(k, 10 * k + 10, length, k + 1);
        }
        return x;
    }

    /** Notes of 4 ticks for so many voices: clip k plays pattern k from tick k on, with instrument k. */
    static PatternSequencer withClips(int clips, int voices) {
        PatternSequencer x = withNotes(4);
        for (int k = 0; k < clips; k++) {
            x.addClip(k, k, 1, 0, k);
        }
        x.setVoices(voices);
        return x;
    }

    /** Pattern 3 has 20000 ticks, pattern 2 has 2000, pattern 1 has 200, and pattern 0 has 20. */
    static PatternSequencer withLongest() {
        PatternSequencer x = new PatternSequencer();
        x.addRest(0, 16);
        x.addRest(0, 4);
        for (int p = 1; p <= 3; p++) {
            x.addCall(p, p - 1, 5);
            x.addCall(p, p - 1, 5);
        }
        return x;
    }

    /** Clip 0 plays pattern 2, of 2500 ticks, 8 times: 20000 ticks. */
    static PatternSequencer withLongestClip() {
        PatternSequencer x = new PatternSequencer();
        x.addRest(0, 16);
        x.addRest(0, 9);
        x.addCall(1, 0, 5);
        x.addCall(1, 0, 5);
        x.addCall(2, 1, 5);
        x.addCall(2, 1, 5);
        x.addClip(0, 2, 8, 0, 0);
        return x;
    }

    /** Patterns with 1, 10 and 100 notes, and a clip that plays the last one 3 times: 300 notes. */
    static PatternSequencer withMostNotes() {
        PatternSequencer x = new PatternSequencer();
        x.addNote(0, 50, 1, 1);
        x.addCall(1, 0, 9);
        x.addCall(1, 0, 1);
        x.addCall(2, 1, 9);
        x.addCall(2, 1, 1);
        x.addClip(0, 2, 3, 0, 0);
        return x;
    }

    static PatternSequencer withFullPattern(int pattern) {
        PatternSequencer x = new PatternSequencer();
        for (int k = 0; k < 12; k++) {
            x.addRest(pattern, k + 1);
        }
        return x;
    }

    static PatternSequencer withMostClips() {
        PatternSequencer x = withNotes(1);
        for (int k = 0; k < 12; k++) {
            x.addClip(100 * k, k % 4, 1, k, k % 4);
        }
        return x;
    }

    static PatternSequencer withMostPlaces() {
        PatternSequencer x = new PatternSequencer();
        for (int k = 1; k < 10; k++) {
            x.setTempo(10 * k, k);
        }
        return x;
    }

    /** One note of velocity 3, from 100 to 1100 milliseconds, with the envelope. */
    static PatternSequencer withEnvelope(int attack, int decay, int sustain, int release) {
        PatternSequencer x = new PatternSequencer();
        x.addNote(0, 50, 10, 3);
        x.addClip(1, 0, 1, 0, 2);
        x.setEnvelope(2, attack, decay, sustain, release);
        return x;
    }

    /** Two notes of 8 ticks hold both voices when a third one begins at 200. */
    static PatternSequencer threeForTwo(int rule) {
        PatternSequencer x = withNotes(8);
        x.setVoices(2);
        x.setRule(rule);
        x.addClip(0, 1, 1, 0, 0);
        x.addClip(1, 2, 1, 0, 1);
        x.addClip(2, 0, 1, 0, 2);
        return x;
    }
}

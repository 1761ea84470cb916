import java.util.NoSuchElementException;

/** Each promise of the document by itself: ordinary inputs, the edges that are named, and wrong inputs. */
public final class PromiseTest {
    private static final Class<IndexOutOfBoundsException> INDEX = IndexOutOfBoundsException.class;
    private static final Class<IllegalArgumentException> ARGUMENT = IllegalArgumentException.class;
    private static final Class<IllegalStateException> STATE = IllegalStateException.class;
    private static final Class<NoSuchElementException> MISSING = NoSuchElementException.class;
    private static final Class<ArithmeticException> ARITHMETIC = ArithmeticException.class;
    private static final int LAST_TIME = 40000000;

    private static int wrong = 0;

    private interface Call {
        void run();
    }

    private static int line() {
        return StackWalker.getInstance().walk(frames -> frames
                .filter(f -> f.getMethodName().startsWith("promise")).findFirst().get().getLineNumber());
    }

    private static void due(double want, double got) {
        if (want != got) {
            wrong++;
            System.out.println("PromiseTest line " + line() + ": answered " + got + ", due is " + want);
        }
    }

    private static void yes(boolean isRight) {
        due(1, isRight ? 1 : 0);
    }

    private static void refused(Class<? extends RuntimeException> kind, Call call) {
        String got = "nothing";
        try {
            call.run();
        } catch (RuntimeException e) {
            if (e.getClass() == kind) {
                return;
            }
            got = e.toString();
        }
        wrong++;
        System.out.println("PromiseTest line " + line() + ": threw " + got + ", due is " + kind.getSimpleName());
    }

    private static void type(PatternSequencer x, String text) {
        for (char sign : text.toCharArray()) {
            x.append(sign);
        }
    }

    private static String text(PatternSequencer x, int pattern) {
        StringBuilder all = new StringBuilder();
        for (int k = 0; k < x.describe(pattern, -1); k++) {
            all.append((char) x.describe(pattern, k));
        }
        return all.toString();
    }

    /** Pattern k, for k below 4, is one note of a length in ticks, and pitch 10 times k plus 10. */
    private static PatternSequencer withNotes(int length) {
        PatternSequencer x = new PatternSequencer();
        for (int k = 0; k < 4; k++) {
            x.addNote(k, 10 * k + 10, length, k + 1);
        }
        return x;
    }

    private static void promise1New() {
        PatternSequencer x = new PatternSequencer();
        int[] counts = {0, 0, 0, 0, 4, 1, 0, 0, 0};
        for (int what = 0; what <= 8; what++) {
            due(counts[what], x.count(what));
        }
        for (int p = 0; p < 8; p++) {
            int[] numbers = {0, 0, 0, 0, 1};
            for (int what = 0; what <= 4; what++) {
                due(numbers[what], x.pattern(p, what));
            }
        }
        for (int i = 0; i < 4; i++) {
            int[] numbers = {0, 0, 100, 0, 5, 0};
            for (int what = 0; what <= 5; what++) {
                due(numbers[what], x.instrument(i, what));
            }
        }
        due(100, x.tempo(0));
        due(100, x.tempo(30000));
        due(0, x.eventCount());
        refused(MISSING, x::undo);
        refused(STATE, x::restore);
        refused(MISSING, x::errorPosition);
        due(1, x.append('r'));
    }

    private static void promise2Clear() {
        PatternSequencer x = withNotes(2);
        due(0, x.clear());
        x.addNote(3, 50, 4, 5);
        x.addClip(1, 3, 2, 0, 1);
        x.addClip(2, 3, 2, 0, 1);
        x.setTempo(3, 7);
        x.setTempo(0, 8);
        x.setSwing(9);
        x.setVoices(2);
        x.setRule(1);
        x.setEnvelope(2, 1, 2, 3, 4);
        x.setPriority(2, 9);
        type(x, "bad");
        refused(ARGUMENT, () -> x.read(0));
        type(x, "r1");
        due(4, x.count(1));
        due(8, x.eventCount());
        due(2, x.clear());
        due(0, x.polyphony());
        due(0, x.count(0));
        due(0, x.count(1));
        due(4, x.count(4));
        due(1, x.count(5));
        due(0, x.count(6));
        due(0, x.count(7));
        due(0, x.count(8));
        due(0, x.eventCount());
        due(0, x.pattern(3, 0));
        due(0, x.pattern(3, 1));
        due(100, x.tempo(0));
        due(100, x.tempo(5));
        due(0, x.instrument(2, 0));
        due(100, x.instrument(2, 2));
        due(5, x.instrument(2, 4));
        due(0, x.instrument(1, 5));
        refused(MISSING, x::undo);
        refused(MISSING, x::errorPosition);
        due(1, x.append('r'));
        due(0, x.clear());
    }

    private static void promise2ClearKeepsWhatIsSaved() {
        PatternSequencer x = withNotes(2);
        x.addClip(0, 0, 1, 0, 0);
        x.save();
        due(1, x.clear());
        due(1, x.restore());
        due(1, x.count(1));
    }

    private static void promise3AddNote() {
        PatternSequencer x = new PatternSequencer();
        due(1, x.addNote(0, 0, 1, 1));
        due(2, x.addNote(0, 99, 16, 9));
        due(1, x.addNote(7, 50, 8, 5));
        due(17, x.pattern(0, 1));
        due(2, x.pattern(0, 2));
        due(0, x.item(0, 0, 1));
        due(99, x.item(0, 1, 1));
        refused(INDEX, () -> x.addNote(-1, 100, 0, 0));
        refused(INDEX, () -> x.addNote(8, 0, 1, 1));
        refused(ARGUMENT, () -> x.addNote(0, -1, 1, 1));
        refused(ARGUMENT, () -> x.addNote(0, 100, 1, 1));
        refused(ARGUMENT, () -> x.addNote(0, 0, 0, 1));
        refused(ARGUMENT, () -> x.addNote(0, 0, 17, 1));
        refused(ARGUMENT, () -> x.addNote(0, 0, 1, 0));
        refused(ARGUMENT, () -> x.addNote(0, 0, 1, 10));
        for (int k = 3; k <= 12; k++) {
            due(k, x.addNote(0, 1, 1, 1));
        }
        refused(STATE, () -> x.addNote(0, 1, 1, 1));
        refused(ARGUMENT, () -> x.addNote(0, 1, 17, 1));
        due(12, x.pattern(0, 0));
        due(7, x.undo());
    }

    /** A tower in which each pattern calls the lower one as often as can be, without a note at its foot. */
    private static PatternSequencer tower(int times) {
        PatternSequencer x = new PatternSequencer();
        for (int p = 1; p < 8; p++) {
            x.addCall(p, p - 1, times);
        }
        return x;
    }

    private static void promise3AddNoteThatIsTooGreat() {
        PatternSequencer x = tower(4);
        // 4 to the power of 7 is 16384, once too long with 2 ticks
        refused(STATE, () -> x.addNote(0, 1, 2, 1));
        due(0, x.pattern(0, 0));
        due(0, x.pattern(7, 1));
        due(1, x.addNote(0, 1, 1, 1));
        due(16384, x.pattern(7, 1));
        due(16384, x.pattern(7, 2));
        refused(STATE, () -> x.addNote(0, 1, 1, 1));
        due(2, x.addNote(7, 1, 16, 1));
        PatternSequencer far = new PatternSequencer();
        for (int p = 1; p < 8; p++) {
            for (int k = 0; k < 12; k++) {
                far.addCall(p, p - 1, 9);
            }
        }
        refused(STATE, () -> far.addNote(0, 1, 16, 1));
        refused(STATE, () -> far.addRest(0, 1));
        due(0, far.pattern(7, 1));
    }

    private static void promise3AddNoteWithTooManyNotesOfClips() {
        PatternSequencer x = new PatternSequencer();
        x.addNote(0, 1, 1, 1);
        x.addCall(1, 0, 9);
        x.addCall(2, 1, 8);
        x.addNote(2, 5, 1, 1);
        x.addNote(2, 5, 1, 1);
        x.addNote(2, 5, 1, 1);
        due(75, x.pattern(2, 2));
        x.addClip(0, 2, 4, 0, 0);
        due(300, x.count(1));
        refused(STATE, () -> x.addNote(2, 1, 1, 1));
        refused(STATE, () -> x.addNote(0, 1, 1, 1));
        due(5, x.addRest(2, 1));
        due(1, x.addNote(3, 1, 1, 1));
        due(300, x.count(1));
    }

    private static void promise4AddRest() {
        PatternSequencer x = new PatternSequencer();
        due(1, x.addRest(2, 1));
        due(2, x.addRest(2, 16));
        due(17, x.pattern(2, 1));
        due(0, x.pattern(2, 2));
        refused(INDEX, () -> x.addRest(8, 0));
        refused(INDEX, () -> x.addRest(-1, 1));
        refused(ARGUMENT, () -> x.addRest(2, 0));
        refused(ARGUMENT, () -> x.addRest(2, 17));
        for (int k = 3; k <= 12; k++) {
            x.addRest(2, 1);
        }
        refused(STATE, () -> x.addRest(2, 1));
        refused(ARGUMENT, () -> x.addRest(2, 0));
        PatternSequencer high = tower(4);
        refused(STATE, () -> high.addRest(0, 2));
        due(1, high.addRest(0, 1));
        PatternSequencer clipped = new PatternSequencer();
        clipped.addRest(0, 16);
        clipped.addCall(1, 0, 9);
        clipped.addCall(2, 1, 9);
        clipped.addCall(3, 2, 1);
        clipped.addCall(3, 2, 7);
        due(10368, clipped.pattern(3, 1));
        clipped.addClip(0, 2, 9, 0, 0);
        clipped.addClip(0, 3, 1, 0, 0);
        due(11664, clipped.clip(0, 5));
        refused(STATE, () -> clipped.addCall(2, 1, 9));
        due(2, clipped.addRest(2, 1));
    }

    private static void promise5AddCall() {
        PatternSequencer x = new PatternSequencer();
        x.addNote(0, 5, 3, 1);
        due(1, x.addCall(1, 0, 9));
        due(27, x.pattern(1, 1));
        due(1, x.addCall(7, 6, 1));
        due(2, x.addCall(7, 0, 1));
        due(3, x.pattern(7, 1));
        refused(INDEX, () -> x.addCall(8, 0, 1));
        refused(INDEX, () -> x.addCall(-1, 0, 1));
        refused(ARGUMENT, () -> x.addCall(0, 0, 1));
        refused(ARGUMENT, () -> x.addCall(0, -1, 1));
        refused(ARGUMENT, () -> x.addCall(3, 3, 1));
        refused(ARGUMENT, () -> x.addCall(3, 4, 1));
        refused(ARGUMENT, () -> x.addCall(3, -1, 1));
        refused(ARGUMENT, () -> x.addCall(3, 2, 0));
        refused(ARGUMENT, () -> x.addCall(3, 2, 10));
        for (int k = 3; k <= 12; k++) {
            due(k, x.addCall(7, 0, 1));
        }
        refused(STATE, () -> x.addCall(7, 0, 1));
        refused(ARGUMENT, () -> x.addCall(7, 7, 1));
        PatternSequencer high = tower(4);
        high.addRest(0, 1);
        refused(STATE, () -> high.addCall(7, 6, 1));
        refused(STATE, () -> high.addCall(7, 5, 4));
        due(2, high.addCall(7, 5, 3));
        due(19456, high.pattern(7, 1));
    }

    private static void promise6RemoveItem() {
        PatternSequencer x = new PatternSequencer();
        x.addNote(1, 10, 1, 1);
        x.addRest(1, 5);
        x.addCall(1, 0, 2);
        x.addNote(2, 77, 1, 1);
        refused(INDEX, () -> x.removeItem(-1, 0));
        refused(INDEX, () -> x.removeItem(8, 0));
        refused(INDEX, () -> x.removeItem(1, 3));
        refused(INDEX, () -> x.removeItem(1, -1));
        refused(INDEX, () -> x.removeItem(0, 0));
        // a number that, times 5, is 4 in Java's arithmetic
        refused(INDEX, () -> x.removeItem(858993460, 0));
        refused(INDEX, () -> x.item(858993460, 0, 0));
        due(2, x.removeItem(1, 0));
        due(1, x.item(1, 0, 0));
        due(2, x.item(1, 1, 0));
        due(5, x.pattern(1, 1));
        due(0, x.pattern(1, 2));
        due(1, x.removeItem(1, 1));
        due(0, x.pattern(1, 3));
        due(0, x.removeItem(1, 0));
        due(0, x.pattern(1, 1));
        due(77, x.item(2, 0, 1));
        refused(INDEX, () -> x.removeItem(1, 0));
        PatternSequencer full = new PatternSequencer();
        for (int k = 0; k < 12; k++) {
            full.addNote(0, k, 1, 1);
        }
        full.addNote(1, 50, 1, 1);
        due(11, full.removeItem(0, 5));
        due(4, full.item(0, 4, 1));
        due(6, full.item(0, 5, 1));
        due(11, full.item(0, 10, 1));
        due(50, full.item(1, 0, 1));
    }

    private static void promise7Pattern() {
        PatternSequencer x = new PatternSequencer();
        x.addNote(0, 1, 3, 1);
        x.addCall(2, 0, 2);
        x.addRest(2, 4);
        x.addCall(5, 2, 3);
        x.addNote(5, 1, 1, 1);
        x.addCall(5, 3, 9);
        x.addCall(6, 5, 1);
        x.addCall(6, 0, 1);
        int[] five = {3, 31, 7, 1 | 4 | 8, 3};
        int[] six = {2, 34, 8, 1 | 4 | 8 | 32, 4};
        int[] three = {0, 0, 0, 0, 1};
        for (int what = 0; what <= 4; what++) {
            due(five[what], x.pattern(5, what));
            due(six[what], x.pattern(6, what));
            due(three[what], x.pattern(3, what));
        }
        due(1, x.pattern(0, 4));
        due(8, tower(1).pattern(7, 4));
        due(127, tower(1).pattern(7, 3));
        refused(INDEX, () -> x.pattern(8, 5));
        refused(INDEX, () -> x.pattern(-1, 0));
        refused(ARGUMENT, () -> x.pattern(7, 5));
        refused(ARGUMENT, () -> x.pattern(0, -1));
    }

    private static void promise8Item() {
        PatternSequencer x = new PatternSequencer();
        x.addNote(4, 60, 7, 8);
        x.addRest(4, 9);
        x.addCall(4, 3, 2);
        int[][] items = {{0, 60, 7, 8}, {1, -1, 9, -1}, {2, 3, 2, -1}};
        for (int k = 0; k < 3; k++) {
            for (int what = 0; what <= 3; what++) {
                due(items[k][what], x.item(4, k, what));
            }
        }
        refused(INDEX, () -> x.item(8, 0, 4));
        refused(INDEX, () -> x.item(-1, 0, 0));
        refused(INDEX, () -> x.item(4, 3, 4));
        refused(INDEX, () -> x.item(4, -1, 0));
        refused(INDEX, () -> x.item(5, 0, 0));
        refused(ARGUMENT, () -> x.item(4, 0, 4));
        refused(ARGUMENT, () -> x.item(4, 0, -1));
    }

    private static void promise9Played() {
        PatternSequencer x = new PatternSequencer();
        x.addRest(0, 2);
        x.addNote(0, 20, 3, 4);
        x.addNote(0, 21, 1, 5);
        x.addNote(1, 90, 2, 9);
        x.addCall(1, 0, 2);
        x.addRest(1, 1);
        x.addCall(2, 1, 2);
        x.addNote(2, 1, 1, 1);
        int[][] notes = {{0, 90, 2, 9}, {4, 20, 3, 4}, {7, 21, 1, 5}, {10, 20, 3, 4}, {13, 21, 1, 5},
            {15, 90, 2, 9}, {19, 20, 3, 4}, {22, 21, 1, 5}, {25, 20, 3, 4}, {28, 21, 1, 5}, {30, 1, 1, 1}};
        for (int k = 0; k < notes.length; k++) {
            for (int what = 0; what <= 3; what++) {
                due(notes[k][what], x.played(2, k, what));
            }
        }
        refused(MISSING, () -> x.played(2, 11, 0));
        refused(MISSING, () -> x.played(2, -1, 0));
        refused(MISSING, () -> x.played(3, 0, 0));
        refused(INDEX, () -> x.played(8, 99, 9));
        refused(INDEX, () -> x.played(-1, 0, 0));
        refused(ARGUMENT, () -> x.played(2, 99, 4));
        refused(ARGUMENT, () -> x.played(2, 0, -1));
        PatternSequencer high = tower(4);
        high.addNote(0, 33, 1, 1);
        due(16383, high.played(7, 16383, 0));
        due(33, high.played(7, 9999, 1));
        refused(MISSING, () -> high.played(7, 16384, 0));
    }

    private static void promise10AddClip() {
        PatternSequencer x = withNotes(2);
        due(0, x.addClip(0, 0, 1, -50, 0));
        due(1, x.addClip(9999, 7, 9, 50, 3));
        refused(ARGUMENT, () -> x.addClip(-1, 0, 1, 0, 0));
        refused(ARGUMENT, () -> x.addClip(10000, 0, 1, 0, 0));
        refused(ARGUMENT, () -> x.addClip(0, -1, 1, 0, 0));
        refused(ARGUMENT, () -> x.addClip(0, 8, 1, 0, 0));
        refused(ARGUMENT, () -> x.addClip(0, 0, 0, 0, 0));
        refused(ARGUMENT, () -> x.addClip(0, 0, 10, 0, 0));
        refused(ARGUMENT, () -> x.addClip(0, 0, 1, -51, 0));
        refused(ARGUMENT, () -> x.addClip(0, 0, 1, 51, 0));
        refused(ARGUMENT, () -> x.addClip(0, 0, 1, 0, -1));
        refused(ARGUMENT, () -> x.addClip(0, 0, 1, 0, 4));
        for (int k = 2; k < 12; k++) {
            due(k, x.addClip(k, 1, 1, 0, 0));
        }
        refused(STATE, () -> x.addClip(0, 0, 1, 0, 0));
        refused(ARGUMENT, () -> x.addClip(0, 0, 1, 0, 4));
        due(12, x.count(0));
        PatternSequencer loud = new PatternSequencer();
        loud.addNote(0, 1, 1, 1);
        loud.addCall(1, 0, 9);
        loud.addCall(2, 1, 4);
        loud.addClip(0, 2, 8, 0, 0);
        refused(STATE, () -> loud.addClip(0, 1, 2, 0, 0));
        due(1, loud.addClip(0, 1, 1, 0, 0));
        due(297, loud.count(1));
        due(2, loud.addClip(0, 0, 3, 0, 0));
        refused(STATE, () -> loud.addClip(0, 0, 1, 0, 0));
        due(3, loud.addClip(0, 3, 1, 0, 0));
        PatternSequencer longest = new PatternSequencer();
        longest.addRest(0, 16);
        longest.addRest(0, 4);
        for (int p = 1; p < 4; p++) {
            longest.addCall(p, p - 1, 5);
            longest.addCall(p, p - 1, 5);
        }
        due(20000, longest.pattern(3, 1));
        refused(STATE, () -> longest.addClip(0, 3, 2, 0, 0));
        due(0, longest.addClip(9999, 3, 1, 0, 0));
    }

    private static void promise11RemoveClip() {
        PatternSequencer x = withNotes(2);
        for (int k = 0; k < 12; k++) {
            x.addClip(k, k % 4, 1, k, k % 4);
        }
        refused(INDEX, () -> x.removeClip(12));
        refused(INDEX, () -> x.removeClip(-1));
        due(11, x.removeClip(3));
        due(2, x.clip(2, 0));
        due(4, x.clip(3, 0));
        due(11, x.clip(10, 3));
        due(11, x.count(1));
        due(3, x.note(3, 0));
        due(14, x.note(3, 3));
        due(10, x.removeClip(10));
        due(9, x.removeClip(0));
        refused(INDEX, () -> x.removeClip(9));
        refused(INDEX, () -> new PatternSequencer().removeClip(0));
    }

    private static void promise12MoveClip() {
        PatternSequencer x = withNotes(2);
        x.addClip(5, 0, 1, 0, 0);
        x.addClip(6, 1, 1, 0, 0);
        due(5, x.moveClip(0, 9999));
        due(9999, x.moveClip(0, 0));
        due(0, x.moveClip(0, 7));
        due(7, x.clip(0, 0));
        due(0, x.clip(0, 1));
        due(1, x.note(0, 0));
        due(7, x.note(1, 1));
        refused(INDEX, () -> x.moveClip(2, -1));
        refused(INDEX, () -> x.moveClip(-1, 0));
        refused(ARGUMENT, () -> x.moveClip(1, -1));
        refused(ARGUMENT, () -> x.moveClip(1, 10000));
        due(6, x.clip(1, 0));
    }

    private static void promise13Clip() {
        PatternSequencer x = new PatternSequencer();
        x.addNote(0, 1, 3, 1);
        x.addRest(0, 4);
        x.addCall(1, 0, 2);
        x.addClip(5, 1, 9, -3, 2);
        int[] numbers = {5, 1, 9, -3, 2, 126, 18};
        for (int what = 0; what <= 6; what++) {
            due(numbers[what], x.clip(0, what));
        }
        x.addNote(0, 1, 1, 1);
        due(144, x.clip(0, 5));
        due(36, x.clip(0, 6));
        refused(INDEX, () -> x.clip(1, 7));
        refused(INDEX, () -> x.clip(-1, 0));
        refused(ARGUMENT, () -> x.clip(0, 7));
        refused(ARGUMENT, () -> x.clip(0, -1));
    }

    private static void promise14Count() {
        PatternSequencer x = withNotes(4);
        x.addClip(0, 0, 1, 0, 0);
        x.addClip(1, 1, 1, 0, 1);
        x.addClip(2, 2, 1, 0, 2);
        x.addClip(9, 4, 1, 0, 2);
        x.setVoices(1);
        x.setPriority(2, 4);
        x.setTempo(1, 5);
        x.setSwing(6);
        x.setRule(2);
        int[] counts = {4, 3, 1, 1, 1, 2, 6, 2, 6};
        for (int what = 0; what <= 8; what++) {
            due(counts[what], x.count(what));
        }
        refused(ARGUMENT, () -> x.count(9));
        refused(ARGUMENT, () -> x.count(-1));
    }

    private static void promise15Note() {
        PatternSequencer x = new PatternSequencer();
        x.addNote(0, 95, 3, 7);
        x.addNote(0, 5, 2, 8);
        x.addClip(4, 0, 2, 10, 1);
        x.addClip(1, 0, 1, -10, 2);
        x.addClip(4, 0, 1, 0, 3);
        x.setTempo(5, 50);
        x.setSwing(25);
        x.setEnvelope(1, 0, 0, 100, 30);
        // 1: clip 1; 4: clips 1 (second note), 0, 2; 7: clips 0, 2; 9 and 12: clip 0 again
        int[] clips = {1, 0, 1, 2, 0, 2, 0, 0};
        int[] begins = {1, 4, 4, 4, 7, 7, 9, 12};
        int[] ends = {4, 7, 6, 7, 9, 9, 12, 14};
        int[] pitches = {85, 99, 0, 95, 15, 5, 99, 15};
        int[] velocities = {7, 7, 8, 7, 8, 8, 7, 8};
        due(8, x.count(1));
        for (int k = 0; k < 8; k++) {
            due(clips[k], x.note(k, 0));
            due(begins[k], x.note(k, 1));
            due(ends[k], x.note(k, 2));
            due(pitches[k], x.note(k, 3));
            due(velocities[k], x.note(k, 4));
        }
        due(125, x.note(0, 5));
        due(400, x.note(0, 6));
        due(400, x.note(0, 7));
        due(0, x.note(0, 8));
        due(600 + 12, x.note(1, 6));
        due(600 + 12 + 30, x.note(1, 7));
        // of those at tick 4, the lowest pitch comes first: notes 2, 3, 1
        due(0, x.note(2, 8));
        due(1, x.note(3, 8));
        due(2, x.note(1, 8));
        x.setVoices(1);
        x.setPriority(2, 6);
        due(-1, x.note(1, 7));
        due(-1, x.note(1, 8));
        due(612, x.note(1, 6));
        refused(INDEX, () -> x.note(8, 9));
        refused(INDEX, () -> x.note(-1, 0));
        refused(ARGUMENT, () -> x.note(7, 9));
        refused(ARGUMENT, () -> x.note(7, -1));
    }

    private static void promise15NotesOfOneTickByTheirClips() {
        PatternSequencer x = withNotes(1);
        x.addClip(3, 2, 1, 0, 0);
        x.addClip(3, 0, 1, 0, 0);
        x.addClip(2, 1, 1, 0, 0);
        due(2, x.note(0, 0));
        due(0, x.note(1, 0));
        due(1, x.note(2, 0));
    }

    private static void promise16IsCut() {
        PatternSequencer x = withNotes(4);
        x.addClip(0, 0, 1, 0, 0);
        x.addClip(1, 1, 1, 0, 1);
        x.addClip(2, 2, 1, 0, 2);
        yes(!x.isCut(0));
        x.setVoices(1);
        x.setPriority(1, 6);
        yes(x.isCut(0));
        yes(!x.isCut(1));
        yes(!x.isCut(2));
        refused(INDEX, () -> x.isCut(3));
        refused(INDEX, () -> x.isCut(-1));
    }

    private static void promise16NotCutIfItStopsJustThen() {
        PatternSequencer x = withNotes(4);
        x.setVoices(1);
        x.addClip(0, 0, 1, 0, 0);
        x.addClip(4, 0, 1, 0, 0);
        yes(!x.isCut(0));
        due(0, x.note(1, 8));
        x.setEnvelope(0, 0, 0, 100, 1);
        yes(x.isCut(0));
        due(400, x.note(0, 7));
    }

    private static void promise17CutBy() {
        PatternSequencer x = withNotes(4);
        for (int k = 0; k < 4; k++) {
            x.addClip(k, k, 1, 0, k);
        }
        x.setVoices(2);
        due(2, x.cutBy(0));
        due(3, x.cutBy(1));
        refused(MISSING, () -> x.cutBy(2));
        x.setPriority(2, 4);
        refused(MISSING, () -> x.cutBy(2));
        due(3, x.cutBy(0));
        refused(INDEX, () -> x.cutBy(4));
        refused(INDEX, () -> x.cutBy(-1));
    }

    private static void promise17CutAtItsBeginning() {
        PatternSequencer x = withNotes(4);
        x.setVoices(1);
        x.addClip(0, 1, 1, 0, 0);
        x.addClip(0, 0, 1, 0, 0);
        // the lower pitch, note 1, comes first, and is cut by note 0 at once
        due(0, x.cutBy(1));
        due(0, x.note(1, 7));
        due(0, x.note(1, 8));
        due(0, x.count(2));
        due(0, x.level(1, 0));
        due(4, x.eventCount());
        int[][] events = {{0, 0, 1, 0}, {0, 1, 0, 0}, {0, 1, 1, 0}, {400, 0, 0, 0}};
        for (int k = 0; k < 4; k++) {
            for (int what = 0; what <= 3; what++) {
                due(events[k][what], x.event(k, what));
            }
        }
        due(1, x.polyphony());
        due(400, x.busy(0));
    }

    private static void promise18SetTempo() {
        PatternSequencer x = new PatternSequencer();
        due(1, x.setTempo(0, 1));
        due(2, x.setTempo(30000, 1000));
        due(3, x.setTempo(7, 20));
        due(3, x.setTempo(7, 30));
        due(1, x.tempo(6));
        due(30, x.tempo(7));
        due(1000, x.tempo(30000));
        refused(ARGUMENT, () -> x.setTempo(-1, 1));
        refused(ARGUMENT, () -> x.setTempo(30001, 1));
        refused(ARGUMENT, () -> x.setTempo(1, 0));
        refused(ARGUMENT, () -> x.setTempo(1, 1001));
        for (int k = 4; k <= 10; k++) {
            due(k, x.setTempo(100 - k, k));
        }
        refused(STATE, () -> x.setTempo(1, 5));
        refused(ARGUMENT, () -> x.setTempo(1, 0));
        due(10, x.setTempo(96, 900));
        due(900, x.tempo(96));
        due(10, x.setTempo(0, 2));
        due(2, x.tempo(0));
    }

    private static void promise19RemoveTempo() {
        PatternSequencer x = new PatternSequencer();
        x.setTempo(10, 10);
        x.setTempo(20, 20);
        x.setTempo(30, 30);
        refused(ARGUMENT, () -> x.removeTempo(0));
        refused(MISSING, () -> x.removeTempo(11));
        refused(MISSING, () -> x.removeTempo(-1));
        refused(MISSING, () -> x.removeTempo(30001));
        due(3, x.removeTempo(20));
        due(10, x.tempo(25));
        due(30, x.tempo(30));
        refused(MISSING, () -> x.removeTempo(20));
        due(2, x.removeTempo(30));
        due(1, x.removeTempo(10));
        due(100, x.tempo(30));
    }

    private static void promise20Tempo() {
        PatternSequencer x = new PatternSequencer();
        x.setTempo(10, 7);
        x.setTempo(5, 3);
        int[][] tempos = {{0, 100}, {4, 100}, {5, 3}, {9, 3}, {10, 7}, {30000, 7}};
        for (int[] one : tempos) {
            due(one[1], x.tempo(one[0]));
        }
        refused(ARGUMENT, () -> x.tempo(-1));
        refused(ARGUMENT, () -> x.tempo(30001));
    }

    private static void promise21Place() {
        PatternSequencer x = new PatternSequencer();
        due(0, x.place(0));
        x.setTempo(500, 1);
        x.setTempo(30000, 1);
        x.setTempo(3, 1);
        due(0, x.place(0));
        due(3, x.place(1));
        due(500, x.place(2));
        due(30000, x.place(3));
        refused(MISSING, () -> x.place(4));
        refused(MISSING, () -> x.place(-1));
    }

    private static void promise22SetSwing() {
        PatternSequencer x = new PatternSequencer();
        due(0, x.setSwing(50));
        due(50, x.setSwing(0));
        due(0, x.setSwing(7));
        due(7, x.count(6));
        refused(ARGUMENT, () -> x.setSwing(-1));
        refused(ARGUMENT, () -> x.setSwing(51));
        due(7, x.count(6));
    }

    private static void promise23TimeOf() {
        PatternSequencer x = new PatternSequencer();
        due(0, x.timeOf(0, true));
        due(3000000, x.timeOf(30000, false));
        x.setTempo(3, 33);
        x.setTempo(6, 7);
        x.setSwing(50);
        int[] plain = {0, 100, 200, 300, 333, 366, 399, 406};
        int[] swung = {0, 150, 200, 316, 333, 382, 399, 409};
        for (int tick = 0; tick < 8; tick++) {
            due(plain[tick], x.timeOf(tick, true));
            due(swung[tick], x.timeOf(tick, false));
        }
        x.setTempo(30000, 1000);
        due(399 + 7 * 29994, x.timeOf(30000, false));
        PatternSequencer slow = new PatternSequencer();
        slow.setTempo(0, 1000);
        slow.setSwing(50);
        due(30000000, slow.timeOf(30000, false));
        due(29999500, slow.timeOf(29999, false));
        refused(ARGUMENT, () -> x.timeOf(-1, true));
        refused(ARGUMENT, () -> x.timeOf(30001, false));
    }

    private static void promise24TickAt() {
        PatternSequencer x = new PatternSequencer();
        due(0, x.tickAt(0));
        due(0, x.tickAt(99));
        due(1, x.tickAt(100));
        due(29999, x.tickAt(2999999));
        due(30000, x.tickAt(3000000));
        due(30000, x.tickAt(LAST_TIME));
        x.setTempo(3, 33);
        x.setTempo(6, 7);
        x.setSwing(50);
        int[][] ticks = {{199, 1}, {200, 2}, {299, 2}, {300, 3}, {332, 3}, {333, 4}, {398, 5}, {399, 6}, {405, 6},
            {406, 7}};
        for (int[] one : ticks) {
            due(one[1], x.tickAt(one[0]));
        }
        x.setTempo(0, 1);
        due(2, x.tickAt(2));
        due(3, x.tickAt(35));
        refused(ARGUMENT, () -> x.tickAt(-1));
        refused(ARGUMENT, () -> x.tickAt(LAST_TIME + 1));
    }

    private static void promise25SetEnvelope() {
        PatternSequencer x = new PatternSequencer();
        x.setPriority(2, 9);
        due(4, x.setEnvelope(0, 0, 0, 100, 0));
        due(1, x.setEnvelope(1, 5000, 5000, 0, 5000));
        due(2, x.setEnvelope(2, 5000, 5000, 0, 5000));
        due(3, x.setEnvelope(3, 5000, 5000, 0, 5000));
        due(1, x.setEnvelope(3, 5000, 5000, 0, 4999));
        due(1, x.setEnvelope(3, 5000, 5000, 1, 5000));
        due(1, x.setEnvelope(3, 5000, 4999, 0, 5000));
        due(1, x.setEnvelope(3, 4999, 5000, 0, 5000));
        due(2, x.setEnvelope(3, 0, 0, 100, 0));
        refused(INDEX, () -> x.setEnvelope(4, -1, 0, 0, 0));
        refused(INDEX, () -> x.setEnvelope(-1, 0, 0, 0, 0));
        refused(ARGUMENT, () -> x.setEnvelope(0, -1, 0, 0, 0));
        refused(ARGUMENT, () -> x.setEnvelope(0, 5001, 0, 0, 0));
        refused(ARGUMENT, () -> x.setEnvelope(0, 0, -1, 0, 0));
        refused(ARGUMENT, () -> x.setEnvelope(0, 0, 5001, 0, 0));
        refused(ARGUMENT, () -> x.setEnvelope(0, 0, 0, -1, 0));
        refused(ARGUMENT, () -> x.setEnvelope(0, 0, 0, 101, 0));
        refused(ARGUMENT, () -> x.setEnvelope(0, 0, 0, 0, -1));
        refused(ARGUMENT, () -> x.setEnvelope(0, 0, 0, 0, 5001));
        due(9, x.instrument(2, 4));
        due(100, x.instrument(0, 2));
    }

    private static void promise26SetPriority() {
        PatternSequencer x = new PatternSequencer();
        due(5, x.setPriority(3, 0));
        due(0, x.setPriority(3, 9));
        due(9, x.instrument(3, 4));
        due(5, x.instrument(2, 4));
        refused(INDEX, () -> x.setPriority(4, 10));
        refused(INDEX, () -> x.setPriority(-1, 0));
        refused(ARGUMENT, () -> x.setPriority(0, -1));
        refused(ARGUMENT, () -> x.setPriority(0, 10));
    }

    private static void promise26TheOrderOfNotesAtOneTime() {
        PatternSequencer x = withNotes(4);
        x.addClip(0, 1, 1, 0, 1);
        x.addClip(0, 0, 1, 0, 0);
        x.addClip(0, 0, 1, 0, 3);
        due(2, x.note(0, 8));
        due(0, x.note(1, 8));
        due(1, x.note(2, 8));
        x.setPriority(1, 6);
        due(0, x.note(0, 8));
        due(1, x.note(1, 8));
        due(2, x.note(2, 8));
        x.setPriority(3, 7);
        due(0, x.note(2, 8));
        due(1, x.note(0, 8));
        due(2, x.note(1, 8));
    }

    private static void promise27Instrument() {
        PatternSequencer x = withNotes(4);
        x.setEnvelope(2, 1, 2, 3, 4);
        x.setPriority(2, 6);
        x.addClip(0, 0, 1, 0, 2);
        x.addClip(0, 7, 1, 0, 2);
        x.addClip(0, 0, 1, 0, 1);
        int[] numbers = {1, 2, 3, 4, 6, 2};
        for (int what = 0; what <= 5; what++) {
            due(numbers[what], x.instrument(2, what));
        }
        due(1, x.instrument(1, 5));
        x.removeClip(0);
        due(1, x.instrument(2, 5));
        refused(INDEX, () -> x.instrument(4, 6));
        refused(INDEX, () -> x.instrument(-1, 0));
        refused(ARGUMENT, () -> x.instrument(3, 6));
        refused(ARGUMENT, () -> x.instrument(3, -1));
    }

    private static void promise28SetVoices() {
        PatternSequencer x = new PatternSequencer();
        due(4, x.setVoices(8));
        due(8, x.setVoices(1));
        due(1, x.count(4));
        refused(ARGUMENT, () -> x.setVoices(0));
        refused(ARGUMENT, () -> x.setVoices(9));
        due(1, x.setVoices(4));
        x.addNote(0, 1, 4, 1);
        for (int k = 0; k < 9; k++) {
            x.addClip(0, 0, 1, k, 0);
        }
        due(5, x.count(3));
        x.setVoices(8);
        due(1, x.count(3));
        due(8, x.polyphony());
        due(255, x.sounding(0));
    }

    private static void promise29SetRule() {
        PatternSequencer x = new PatternSequencer();
        due(0, x.setRule(2));
        due(2, x.setRule(1));
        due(1, x.setRule(0));
        due(0, x.count(7));
        refused(ARGUMENT, () -> x.setRule(-1));
        refused(ARGUMENT, () -> x.setRule(3));
    }

    private static PatternSequencer threeForTwo() {
        PatternSequencer x = withNotes(8);
        x.setVoices(2);
        x.addClip(0, 1, 1, 0, 0);
        x.addClip(1, 2, 1, 0, 1);
        x.addClip(2, 0, 1, 0, 2);
        return x;
    }

    private static void promise29RulesForStealing() {
        PatternSequencer x = threeForTwo();
        due(2, x.cutBy(0));
        x.setRule(2);
        due(2, x.cutBy(1));
        x.setRule(1);
        due(2, x.cutBy(0));
        x.setEnvelope(1, 1000, 0, 100, 0);
        due(2, x.cutBy(1));
        // at 200 the level of note 1 is 10
        x.setEnvelope(0, 0, 0, 11, 0);
        due(2, x.cutBy(1));
        x.setEnvelope(0, 0, 0, 10, 0);
        due(2, x.cutBy(0));
        x.setRule(0);
        x.moveClip(0, 1);
        // of two that began at once the lowest voice is taken, which is that of the lower pitch
        due(2, x.cutBy(0));
        x.setPriority(0, 6);
        due(2, x.cutBy(1));
        x.setPriority(1, 6);
        due(1, x.count(2));
        due(0, x.count(3));
        x.setPriority(2, 6);
        due(1, x.count(3));
    }

    private static void promise29EqualPitchesAndLevels() {
        PatternSequencer x = withNotes(8);
        x.setVoices(2);
        x.addClip(0, 1, 1, 0, 0);
        x.addClip(1, 1, 1, 0, 1);
        x.addClip(2, 0, 1, 0, 2);
        for (int rule = 0; rule <= 2; rule++) {
            x.setRule(rule);
            due(2, x.cutBy(0));
            due(0, x.note(2, 8));
        }
    }

    private static PatternSequencer envelope(int attack, int decay, int sustain, int release) {
        PatternSequencer x = new PatternSequencer();
        x.addNote(0, 50, 10, 3);
        x.addClip(1, 0, 1, 0, 2);
        x.setEnvelope(2, attack, decay, sustain, release);
        return x;
    }

    private static void promise30Level() {
        PatternSequencer x = envelope(300, 70, 45, 90);
        int[][] levels = {{0, 0}, {99, 0}, {100, 0}, {102, 0}, {103, 1}, {250, 50}, {399, 99}, {400, 100},
            {401, 100}, {402, 99}, {435, 73}, {469, 46}, {470, 45}, {1099, 45}, {1100, 45}, {1101, 44}, {1145, 22},
            {1189, 0}, {1190, 0}, {LAST_TIME, 0}};
        for (int[] one : levels) {
            due(one[1], x.level(0, one[0]));
        }
        refused(INDEX, () -> x.level(1, -1));
        refused(INDEX, () -> x.level(-1, 0));
        refused(ARGUMENT, () -> x.level(0, -1));
        refused(ARGUMENT, () -> x.level(0, LAST_TIME + 1));
    }

    private static void promise30LevelsWithoutAllParts() {
        PatternSequencer plain = envelope(0, 0, 100, 0);
        due(0, plain.level(0, 99));
        due(100, plain.level(0, 100));
        due(100, plain.level(0, 1099));
        due(0, plain.level(0, 1100));
        PatternSequencer decaying = envelope(0, 1000, 0, 1000);
        due(100, decaying.level(0, 100));
        due(100, decaying.level(0, 109));
        due(99, decaying.level(0, 110));
        due(1, decaying.level(0, 1099));
        due(0, decaying.level(0, 1100));
        due(1100 + 1000, decaying.note(0, 7));
        PatternSequencer rising = envelope(2000, 0, 7, 50);
        due(49, rising.level(0, 1099));
        due(50, rising.level(0, 1100));
        due(49, rising.level(0, 1101));
        due(1, rising.level(0, 1149));
        due(0, rising.level(0, 1150));
        PatternSequencer struck = envelope(10, 0, 30, 0);
        due(90, struck.level(0, 109));
        due(30, struck.level(0, 110));
        PatternSequencer shortest = envelope(1, 1, 50, 1);
        due(0, shortest.level(0, 100));
        due(100, shortest.level(0, 101));
        due(50, shortest.level(0, 102));
        due(50, shortest.level(0, 1100));
        due(0, shortest.level(0, 1101));
    }

    private static void promise30LevelsOfCutAndDroppedNotes() {
        PatternSequencer x = withNotes(4);
        x.setVoices(1);
        x.addClip(0, 0, 1, 0, 0);
        x.addClip(2, 0, 1, 0, 1);
        due(100, x.level(0, 199));
        due(0, x.level(0, 200));
        due(100, x.level(1, 200));
        x.setPriority(1, 4);
        due(100, x.level(0, 399));
        due(0, x.level(1, 200));
        due(0, x.level(1, 500));
    }

    private static void promise31Mix() {
        PatternSequencer x = withNotes(4);
        for (int k = 0; k < 4; k++) {
            x.addClip(k, k, 1, 0, k);
        }
        x.setEnvelope(3, 0, 0, 50, 0);
        due(100, x.mix(0));
        due(300, x.mix(100));
        due(600, x.mix(299));
        due(800, x.mix(300));
        due(700, x.mix(400));
        due(200, x.mix(699));
        due(0, x.mix(700));
        x.setVoices(1);
        due(200, x.mix(300));
        due(0, new PatternSequencer().mix(LAST_TIME));
        refused(ARGUMENT, () -> x.mix(-1));
        refused(ARGUMENT, () -> x.mix(LAST_TIME + 1));
    }

    private static void promise32Sounding() {
        PatternSequencer x = withNotes(2);
        for (int k = 0; k < 4; k++) {
            x.addClip(k, k, 1, 0, k);
        }
        x.setEnvelope(0, 1000, 0, 100, 5);
        due(1, x.sounding(0));
        due(3, x.sounding(199));
        due(7, x.sounding(200));
        due(7, x.sounding(204));
        due(6, x.sounding(205));
        due(1 | 4, x.sounding(300));
        due(1, x.sounding(499));
        due(0, x.sounding(500));
        due(0, x.sounding(LAST_TIME));
        refused(ARGUMENT, () -> x.sounding(-1));
        refused(ARGUMENT, () -> x.sounding(LAST_TIME + 1));
    }

    private static void promise33NoteOn() {
        PatternSequencer x = threeForTwo();
        due(0, x.noteOn(0, 0));
        due(0, x.noteOn(0, 199));
        due(2, x.noteOn(0, 200));
        due(1, x.noteOn(1, 100));
        refused(MISSING, () -> x.noteOn(1, 99));
        refused(MISSING, () -> x.noteOn(0, 1000));
        due(2, x.noteOn(0, 999));
        refused(INDEX, () -> x.noteOn(2, -1));
        refused(INDEX, () -> x.noteOn(-1, 0));
        refused(ARGUMENT, () -> x.noteOn(1, -1));
        refused(ARGUMENT, () -> x.noteOn(0, LAST_TIME + 1));
        x.setVoices(8);
        due(2, x.noteOn(2, 200));
        refused(MISSING, () -> x.noteOn(7, 200));
    }

    private static void promise34Polyphony() {
        due(0, new PatternSequencer().polyphony());
        PatternSequencer x = withNotes(4);
        x.addClip(0, 0, 3, 0, 0);
        due(1, x.polyphony());
        x.addClip(11, 1, 1, 0, 0);
        due(2, x.polyphony());
        x.addClip(14, 2, 1, 0, 0);
        due(2, x.polyphony());
        x.setEnvelope(0, 0, 0, 100, 201);
        due(3, x.polyphony());
        x.setVoices(2);
        due(2, x.polyphony());
    }

    private static void promise35Busy() {
        PatternSequencer x = threeForTwo();
        due(1000, x.busy(0));
        due(800, x.busy(1));
        x.setVoices(3);
        due(800, x.busy(0));
        due(800, x.busy(2));
        x.setEnvelope(0, 0, 0, 100, 77);
        due(877, x.busy(0));
        x.setVoices(4);
        due(0, x.busy(3));
        refused(INDEX, () -> x.busy(4));
        refused(INDEX, () -> x.busy(-1));
    }

    private static void promise36LostShare() {
        PatternSequencer x = new PatternSequencer();
        refused(ARITHMETIC, x::lostShare);
        x.addClip(0, 0, 1, 0, 0);
        refused(ARITHMETIC, x::lostShare);
        x.addNote(0, 1, 1, 1);
        due(0, x.lostShare());
        PatternSequencer y = threeForTwo();
        due(1.0 / 3.0, y.lostShare());
        y.setPriority(2, 4);
        due(1.0 / 3.0, y.lostShare());
        y.setPriority(2, 5);
        y.setVoices(1);
        due(2.0 / 3.0, y.lostShare());
        y.setVoices(3);
        due(0, y.lostShare());
    }

    private static void promise37EventCount() {
        due(0, new PatternSequencer().eventCount());
        PatternSequencer x = threeForTwo();
        due(6, x.eventCount());
        x.setPriority(2, 4);
        due(4, x.eventCount());
        x.removeClip(0);
        due(4, x.eventCount());
    }

    private static void promise38Event() {
        PatternSequencer x = threeForTwo();
        x.addClip(10, 3, 1, 0, 3);
        x.addClip(9, 3, 1, 0, 3);
        // note 0 is cut at 200, note 1 stops at 900 as note 3 begins, note 2 at 1000 as note 4 begins
        int[][] events = {{0, 1, 0, 0}, {100, 1, 1, 1}, {200, 0, 0, 0}, {200, 1, 2, 0}, {900, 0, 1, 1},
            {900, 1, 3, 1}, {1000, 0, 2, 0}, {1000, 1, 4, 0}, {1700, 0, 3, 1}, {1800, 0, 4, 0}};
        due(10, x.eventCount());
        for (int k = 0; k < 10; k++) {
            for (int what = 0; what <= 3; what++) {
                due(events[k][what], x.event(k, what));
            }
        }
        refused(INDEX, () -> x.event(10, 4));
        refused(INDEX, () -> x.event(-1, 0));
        refused(ARGUMENT, () -> x.event(9, 4));
        refused(ARGUMENT, () -> x.event(0, -1));
        refused(INDEX, () -> new PatternSequencer().event(0, 0));
    }

    private static void promise38EventsOfOneTimeByNumbers() {
        PatternSequencer x = withNotes(4);
        x.addClip(0, 3, 1, 0, 0);
        x.addClip(0, 2, 1, 0, 0);
        x.addClip(0, 1, 1, 0, 0);
        int[] notes = {0, 1, 2, 0, 1, 2};
        int[] voices = {2, 1, 0, 2, 1, 0};
        for (int k = 0; k < 6; k++) {
            due(k < 3 ? 1 : 0, x.event(k, 1));
            due(notes[k], x.event(k, 2));
            due(voices[k], x.event(k, 3));
        }
    }

    private static PatternSequencer withManyNotes() {
        PatternSequencer x = new PatternSequencer();
        x.addNote(0, 7, 1, 9);
        x.addRest(0, 1);
        x.addCall(1, 0, 5);
        x.addCall(2, 1, 5);
        x.addClip(9, 2, 9, 1, 3);
        x.addClip(459, 2, 3, 2, 2);
        return x;
    }

    private static void promise38AllEventsOfManyNotes() {
        PatternSequencer x = withManyNotes();
        due(300, x.count(1));
        due(600, x.eventCount());
        due(30000, x.busy(0));
        due(608, x.count(8));
        refused(INDEX, () -> x.event(600, 0));
        refused(INDEX, () -> x.note(300, 0));
        for (int from = 0; from < 300; from += 30) {
            // an object has but 512 calls
            PatternSequencer y = withManyNotes();
            for (int k = from; k < from + 30; k++) {
                int[] numbers = {k < 225 ? 0 : 1, 9 + 2 * k, 10 + 2 * k, k < 225 ? 8 : 9, 9, 900 + 200 * k,
                    1000 + 200 * k, 1000 + 200 * k, 0};
                for (int what = 0; what <= 8; what++) {
                    due(numbers[what], y.note(k, what));
                }
                due(900 + 200 * k, y.event(2 * k, 0));
                due(1000 + 200 * k, y.event(2 * k + 1, 0));
                due(k, y.event(2 * k + 1, 2));
            }
        }
    }

    private static void promise39EventFrom() {
        PatternSequencer x = threeForTwo();
        due(0, x.eventFrom(0));
        due(1, x.eventFrom(1));
        due(1, x.eventFrom(100));
        due(2, x.eventFrom(101));
        due(2, x.eventFrom(200));
        due(4, x.eventFrom(201));
        due(5, x.eventFrom(1000));
        refused(MISSING, () -> x.eventFrom(1001));
        refused(MISSING, () -> x.eventFrom(LAST_TIME));
        refused(ARGUMENT, () -> x.eventFrom(-1));
        refused(ARGUMENT, () -> x.eventFrom(LAST_TIME + 1));
        refused(MISSING, () -> new PatternSequencer().eventFrom(0));
    }

    private static void promise40Append() {
        PatternSequencer x = new PatternSequencer();
        due(1, x.append(' '));
        due(2, x.append('~'));
        refused(ARGUMENT, () -> x.append((char) 31));
        refused(ARGUMENT, () -> x.append((char) 127));
        refused(ARGUMENT, () -> x.append((char) 0));
        refused(ARGUMENT, () -> x.append((char) 65535));
        for (int k = 3; k <= 60; k++) {
            due(k, x.append('r'));
        }
        refused(STATE, () -> x.append('r'));
        refused(ARGUMENT, () -> x.append((char) 31));
        refused(ARGUMENT, () -> x.read(0));
        due(1, x.append('r'));
    }

    private static void promise41Read() {
        PatternSequencer x = new PatternSequencer();
        x.addRest(3, 5);
        type(x, "n0.1.1,r16,c2*9,n99.16.9,n7.10.5");
        due(5, x.read(3));
        int[][] items = {{1, -1, 5, -1}, {0, 0, 1, 1}, {1, -1, 16, -1}, {2, 2, 9, -1}, {0, 99, 16, 9}, {0, 7, 10, 5}};
        due(6, x.pattern(3, 0));
        for (int k = 0; k < 6; k++) {
            for (int what = 0; what <= 3; what++) {
                due(items[k][what], x.item(3, k, what));
            }
        }
        due(1, x.undo());
        due(1, x.pattern(3, 0));
        refused(MISSING, x::errorPosition);
        type(x, "r1,r2");
        refused(INDEX, () -> x.read(8));
        due(1, x.append('?'));
        refused(INDEX, () -> x.read(-1));
        refused(MISSING, x::errorPosition);
        refused(ARGUMENT, () -> x.read(0));
        due(0, x.errorPosition());
    }

    private static void promise41ReadThatIsRefused() {
        PatternSequencer x = new PatternSequencer();
        for (String text : new String[] {"r1,c3*1", "r1,c7*1", "r1,r1,c4*1"}) {
            type(x, text);
            refused(STATE, () -> x.read(3));
            due(0, x.pattern(3, 0));
            due(1, x.append('r'));
            refused(ARGUMENT, () -> x.read(3));
        }
        type(x, "r1,c3*1,x");
        refused(ARGUMENT, () -> x.read(3));
        due(8, x.errorPosition());
        type(x, "r1,r1,r1,r1,r1,r1,r1,r1,r1,r1,r1,r1,r1");
        refused(STATE, () -> x.read(0));
        due(8, x.errorPosition());
        type(x, "r1,r1,r1,r1,r1,r1,r1,r1,r1,r1,r1,r1");
        due(12, x.read(0));
        type(x, "r1");
        refused(STATE, () -> x.read(0));
        type(x, "r1,r2,r3,r4,r5,r6,r7,r8,r9,r10,r11,r16");
        due(12, x.read(6));
        yes(text(x, 6).equals("r1,r2,r3,r4,r5,r6,r7,r8,r9,r10,r11,r16"));
        due(12, x.pattern(0, 0));
        type(x, "r1,r1,r1,r1,r1,r1,r1,r1,r1,r1,r1,r1,r1,r1,r1,r1,r1,r1,r1,r1");
        refused(STATE, () -> x.read(1));
        PatternSequencer high = tower(4);
        type(high, "r1,r1");
        refused(STATE, () -> high.read(0));
        due(0, high.pattern(0, 0));
        due(0, high.pattern(7, 1));
        type(high, "r1");
        due(1, high.read(0));
        refused(MISSING, high::errorPosition);
    }

    private static void promise42ErrorPosition() {
        PatternSequencer x = new PatternSequencer();
        refused(MISSING, x::errorPosition);
        String[] texts = {"", "x", "N1", " r1", "n", "n1", "n1.", "n1.1", "n1.1.", "n1.1.0", "n1.1.1,", "n1.1.10", "n-1",
            "n00.1.1", "n01", "n100", "n0.0", "n0.17.1", "n0.16.10", "n0.1,1", "r", "r0", "r17", "r16", "r160", "r9",
            "r99", "r1.", "r1,,r1", "r1 ,r1", "c", "c8", "c7", "c7.1", "c7*", "c7*0", "c7*10", "c0*1c", "c00*1",
            "c1*9,r1,n5.5.5,q", "r1r1", "r1,r1,r1,r1,r1,r1,r1,r1,r1,r1,r1,r1,r1,r1,r1,r1,r1,r1,r1,r1,"};
        int[] positions = {0, 0, 0, 0, 1, 2, 3, 4, 5, 5, 7, 6, 1,
            2, 2, 3, 3, 4, 7, 4, 1, 1, 2, -1, 3, -1,
            2, 2, 3, 2, 1, 1, 2, 2, 3, 3, 4, 4, 2,
            15, 2, 60};
        for (int k = 0; k < texts.length; k++) {
            PatternSequencer y = new PatternSequencer();
            type(y, texts[k]);
            if (positions[k] < 0) {
                due(1, y.read(7));
                refused(MISSING, y::errorPosition);
            } else {
                refused(ARGUMENT, () -> y.read(0));
                due(positions[k], y.errorPosition());
                due(positions[k], y.errorPosition());
            }
        }
        type(x, "rr");
        refused(ARGUMENT, () -> x.read(0));
        type(x, "r1");
        x.read(0);
        x.undo();
        due(1, x.errorPosition());
    }

    private static void promise43Describe() {
        PatternSequencer x = new PatternSequencer();
        due(0, x.describe(0, -1));
        refused(MISSING, () -> x.describe(0, 0));
        x.addNote(1, 0, 16, 9);
        x.addRest(1, 10);
        x.addCall(1, 0, 3);
        x.addNote(1, 99, 1, 1);
        yes(text(x, 1).equals("n0.16.9,r10,c0*3,n99.1.1"));
        due('n', x.describe(1, 0));
        due(24, x.describe(1, -1));
        due('1', x.describe(1, 23));
        refused(MISSING, () -> x.describe(1, 24));
        refused(MISSING, () -> x.describe(1, -2));
        refused(INDEX, () -> x.describe(8, -2));
        refused(INDEX, () -> x.describe(-1, -1));
        for (int k = 0; k < 12; k++) {
            x.addNote(2, 99, 16, 9);
        }
        due(107, x.describe(2, -1));
        due('9', x.describe(2, 106));
    }

    private static void promise44Undo() {
        PatternSequencer x = new PatternSequencer();
        refused(MISSING, x::undo);
        for (int k = 1; k <= 10; k++) {
            x.addNote(0, k, 1, 1);
        }
        for (int left = 7; left >= 0; left--) {
            due(left, x.undo());
            due(left + 2, x.pattern(0, 0));
        }
        refused(MISSING, x::undo);
        due(2, x.pattern(0, 0));
    }

    private static void promise44WhatAChangeIs() {
        PatternSequencer x = withNotes(4);
        x.clear();
        x.setSwing(0);
        due(0, x.undo());
        x.setTempo(0, 100);
        x.setRule(0);
        x.setVoices(4);
        x.setEnvelope(0, 0, 0, 100, 0);
        x.setPriority(0, 5);
        due(4, x.undo());
        refused(ARGUMENT, () -> x.setRule(3));
        refused(MISSING, () -> x.removeTempo(9));
        type(x, "r1,");
        refused(ARGUMENT, () -> x.read(0));
        x.save();
        due(3, x.undo());
        due(2, x.undo());
    }

    private static void promise44UndoOfEachChange() {
        PatternSequencer x = withNotes(4);
        x.addRest(0, 1);
        x.addCall(5, 0, 2);
        x.addClip(3, 5, 1, 0, 1);
        x.moveClip(0, 4);
        x.removeItem(0, 1);
        x.removeClip(0);
        due(0, x.count(0));
        x.undo();
        due(4, x.clip(0, 0));
        due(8, x.clip(0, 5));
        x.undo();
        due(10, x.clip(0, 5));
        due(10, x.pattern(5, 1));
        due(9, x.note(1, 1));
        x.undo();
        due(3, x.clip(0, 0));
        due(8, x.note(1, 1));
        x.undo();
        due(0, x.count(1));
        x.undo();
        due(0, x.pattern(5, 3));
        x.undo();
        due(1, x.pattern(0, 0));
        x.setTempo(4, 9);
        x.removeTempo(4);
        due(1, x.count(5));
        x.undo();
        due(9, x.tempo(4));
        x.undo();
        due(100, x.tempo(4));
        x.setSwing(5);
        x.setEnvelope(1, 1, 2, 3, 4);
        x.setPriority(1, 9);
        x.setVoices(1);
        x.setRule(1);
        due(6, x.undo());
        due(0, x.count(7));
        x.undo();
        due(4, x.count(4));
        x.undo();
        due(5, x.instrument(1, 4));
        x.undo();
        due(0, x.instrument(1, 0));
        x.undo();
        due(0, x.count(6));
    }

    private static void promise45Save() {
        PatternSequencer x = withNotes(4);
        due(0, x.save());
        x.addClip(0, 0, 1, 0, 0);
        x.addClip(0, 0, 1, 0, 0);
        due(2, x.save());
        due(5, x.undo());
        x.clear();
        type(x, "r");
        due(2, x.restore());
        due(4, x.pattern(0, 1));
        due(2, x.append('1'));
        due(1, x.read(1));
        due(5, x.pattern(1, 1));
    }

    private static void promise46Restore() {
        PatternSequencer x = withNotes(4);
        refused(STATE, x::restore);
        x.addClip(1, 1, 1, 0, 1);
        x.setTempo(2, 20);
        x.setSwing(10);
        x.setVoices(2);
        x.setRule(1);
        x.setEnvelope(1, 1, 2, 3, 4);
        x.setPriority(1, 7);
        x.save();
        x.addNote(1, 5, 5, 5);
        x.addClip(1, 2, 1, 0, 1);
        x.removeTempo(2);
        x.setSwing(11);
        x.setVoices(3);
        x.setRule(2);
        x.setEnvelope(1, 0, 0, 0, 0);
        x.setPriority(1, 8);
        type(x, "x");
        refused(ARGUMENT, () -> x.read(0));
        type(x, "r");
        for (int k = 0; k < 2; k++) {
            due(1, x.restore());
            due(1, x.pattern(1, 0));
            due(20, x.tempo(2));
            due(10, x.count(6));
            due(2, x.count(4));
            due(1, x.count(7));
            due(3, x.instrument(1, 2));
            due(7, x.instrument(1, 4));
            due(1, x.count(1));
            due(2, x.eventCount());
            refused(MISSING, x::undo);
            x.addClip(4, 1, 1, 0, 1);
            x.addNote(1, 5, 5, 5);
            due(4, x.count(1));
            due(8, x.eventCount());
        }
        due(0, x.errorPosition());
        due(2, x.append('3'));
        x.restore();
        x.setSwing(3);
        due(0, x.undo());
        due(10, x.count(6));
    }

    public static void main(String[] arguments) throws Exception {
        int tests = 0;
        for (java.lang.reflect.Method method : PromiseTest.class.getDeclaredMethods()) {
            if (method.getName().startsWith("promise")) {
                try {
                    method.invoke(null);
                } catch (java.lang.reflect.InvocationTargetException e) {
                    wrong++;
                    System.out.println(method.getName() + " stopped:");
                    e.getCause().printStackTrace(System.out);
                }
                tests++;
            }
        }
        System.out.println(wrong == 0 ? "promises: all " + tests + " tests are as due" : "promises: " + wrong + " faults");
        if (wrong != 0 || tests == 0) {
            System.exit(1);
        }
    }
}

import java.util.ArrayList;
import java.util.List;
import java.util.function.IntSupplier;

/**
 * What an object answers: what it holds, its past, its input and what it saved. Two objects with the same portrait are
 * in the same state. A portrait takes the object apart, with some 400 calls at most, as an object has but 512.
 */
final class Portrait {
    private static final int SOME_NOTES = 10;

    private final PatternSequencer x;
    private final List<String> answers = new ArrayList<>();

    private Portrait(PatternSequencer x) {
        this.x = x;
    }

    static List<String> of(PatternSequencer x) {
        Portrait portrait = new Portrait(x);
        portrait.askForPatterns();
        portrait.askForClips();
        portrait.askForTempos();
        portrait.askForNotes();
        portrait.askForThePast();
        portrait.askForTheInput();
        portrait.askForWhatIsSaved();
        return portrait.answers;
    }

    private int ask(String call, IntSupplier question) {
        try {
            int answer = question.getAsInt();
            answers.add(call + " = " + answer);
            return answer;
        } catch (RuntimeException e) {
            answers.add(call + " throws " + e.getClass().getSimpleName());
            return -1;
        }
    }

    private void askForPatterns() {
        for (int k = 0; k < 8; k++) {
            int pattern = k;
            for (int j = 0; j <= 4; j++) {
                int what = j;
                ask("pattern(" + pattern + ", " + what + ")", () -> x.pattern(pattern, what));
            }
            int length = ask("describe(" + pattern + ", -1)", () -> x.describe(pattern, -1));
            ask("describe(" + pattern + ", last)", () -> x.describe(pattern, length - 1));
        }
    }

    private void askForClips() {
        for (int k = 0; k <= 8; k++) {
            int what = k;
            ask("count(" + what + ")", () -> x.count(what));
        }
        int clips = x.count(0);
        for (int k = 0; k < clips; k++) {
            int clip = k;
            for (int j = 0; j <= 5; j++) {
                int what = j;
                ask("clip(" + clip + ", " + what + ")", () -> x.clip(clip, what));
            }
        }
        for (int k = 0; k < 4; k++) {
            int instrument = k;
            for (int j = 0; j <= 5; j++) {
                int what = j;
                ask("instrument(" + instrument + ", " + what + ")", () -> x.instrument(instrument, what));
            }
        }
    }

    private void askForTempos() {
        int places = x.count(5);
        for (int k = 0; k < places; k++) {
            int index = k;
            int tick = ask("place(" + index + ")", () -> x.place(index));
            ask("tempo(" + tick + ")", () -> x.tempo(tick));
        }
    }

    private void askForNotes() {
        int notes = Math.min(SOME_NOTES, x.count(1));
        for (int k = 0; k < notes; k++) {
            int note = k;
            for (int what : new int[] {1, 3, 7, 8}) {
                ask("note(" + note + ", " + what + ")", () -> x.note(note, what));
            }
        }
        ask("eventCount()", x::eventCount);
        ask("errorPosition()", x::errorPosition);
    }

    private void askForThePast() {
        int left = 8;
        for (int k = 0; k < 9 && left >= 0; k++) {
            left = ask("undo()", x::undo);
            askInShort();
        }
    }

    private void askInShort() {
        for (int what : new int[] {0, 1, 4, 5, 6, 7, 8}) {
            ask("count(" + what + ") then", () -> x.count(what));
        }
        for (int k = 0; k < 4; k++) {
            int pattern = k;
            ask("pattern(" + pattern + ", 1) then", () -> x.pattern(pattern, 1));
        }
        ask("clip(0, 0) then", () -> x.clip(0, 0));
        ask("tempo(5) then", () -> x.tempo(5));
        ask("instrument(1, 0) then", () -> x.instrument(1, 0));
        ask("instrument(2, 4) then", () -> x.instrument(2, 4));
    }

    private void askForTheInput() {
        ask("append('r')", () -> x.append('r'));
        ask("read(7)", () -> x.read(7));
        ask("errorPosition() then", x::errorPosition);
    }

    private void askForWhatIsSaved() {
        ask("restore()", x::restore);
        askInShort();
        ask("undo() after restore()", x::undo);
    }
}

/** The description's sentences on patterns, clips, tempo and instruments: their edges, and what is refused beyond. */
public final class SongDescriptionTest extends Checks {

    // ---- what it is

    @Sentence("What it is: at most 512 calls")
    static void theCall512IsAnsweredLikeTheFirst() {
        PatternSequencer x = new PatternSequencer();
        for (int k = 0; k < 255; k++) {
            due(1, x.addRest(7, 1 + k % 16));
            due(0, x.removeItem(7, 0));
        }
        due(1, x.addNote(7, 99, 16, 9));
        due(16, x.pattern(7, 1));
    }

    // ---- patterns

    @Sentence("Patterns: There are 8 patterns, numbered from 0")
    static void thereAreEightPatterns() {
        PatternSequencer x = new PatternSequencer();
        for (int p = 0; p < 8; p++) {
            due(1, x.addRest(p, p + 1));
        }
        for (int p = 0; p < 8; p++) {
            due(p + 1, x.pattern(p, 1));
        }
        refusedOutside(0, 7, INDEX, Checks::rich, (y, n) -> y.pattern(n, 0));
    }

    @Sentence("Patterns: each with at most 12 items")
    static void eachPatternHasAtMostTwelveItems() {
        PatternSequencer x = new PatternSequencer();
        for (int p = 0; p < 8; p++) {
            int pattern = p;
            for (int k = 1; k <= 12; k++) {
                due(k, x.addRest(pattern, 1));
            }
            thrown(STATE, x, y -> y.addRest(pattern, 1));
        }
        for (int p = 0; p < 8; p++) {
            due(12, x.pattern(p, 0));
        }
    }

    @Sentence("Patterns: at first none")
    static void aPatternHasNoItemsAtFirst() {
        PatternSequencer x = new PatternSequencer();
        for (int p = 0; p < 8; p++) {
            int pattern = p;
            due(0, x.pattern(p, 0));
            thrown(INDEX, x, y -> y.item(pattern, 0, 0));
        }
    }

    @Sentence("Patterns: a pitch from 0 to 99")
    static void aPitchIsFrom0To99() {
        PatternSequencer x = new PatternSequencer();
        x.addNote(0, 0, 2, 2);
        x.addNote(0, 99, 2, 2);
        due(0, x.item(0, 0, 1));
        due(99, x.item(0, 1, 1));
        refusedOutside(0, 99, ARGUMENT, Checks::rich, (y, n) -> y.addNote(0, n, 2, 2));
    }

    @Sentence("Patterns: a length from 1 to 16 ticks and a velocity")
    static void theLengthOfANoteIsFrom1To16() {
        PatternSequencer x = new PatternSequencer();
        x.addNote(0, 50, 1, 2);
        x.addNote(0, 50, 16, 2);
        due(1, x.item(0, 0, 2));
        due(16, x.item(0, 1, 2));
        refusedOutside(1, 16, ARGUMENT, Checks::rich, (y, n) -> y.addNote(0, 50, n, 2));
    }

    @Sentence("Patterns: a velocity from 1 to 9")
    static void aVelocityIsFrom1To9() {
        PatternSequencer x = new PatternSequencer();
        x.addNote(0, 50, 2, 1);
        x.addNote(0, 50, 2, 9);
        due(1, x.item(0, 0, 3));
        due(9, x.item(0, 1, 3));
        refusedOutside(1, 9, ARGUMENT, Checks::rich, (y, n) -> y.addNote(0, 50, 2, n));
    }

    @Sentence("Patterns: a rest, with a length from 1 to 16 ticks")
    static void theLengthOfARestIsFrom1To16() {
        PatternSequencer x = new PatternSequencer();
        x.addRest(0, 1);
        x.addRest(0, 16);
        due(1, x.item(0, 0, 2));
        due(16, x.item(0, 1, 2));
        refusedOutside(1, 16, ARGUMENT, Checks::rich, (y, n) -> y.addRest(0, n));
    }

    @Sentence("Patterns: a pattern that has a lower number than the pattern of the item")
    static void aCalledPatternHasALowerNumber() {
        PatternSequencer x = new PatternSequencer();
        for (int p = 0; p < 8; p++) {
            int pattern = p;
            thrown(ARGUMENT, x, y -> y.addCall(pattern, pattern, 1));
            thrown(ARGUMENT, x, y -> y.addCall(pattern, pattern + 1, 1));
            thrown(ARGUMENT, x, y -> y.addCall(pattern, -1, 1));
            for (int called = 0; called < pattern; called++) {
                due(called + 1, x.addCall(pattern, called, 1));
                due(called, x.item(pattern, called, 1));
            }
            due(pattern, x.pattern(pattern, 0));
        }
    }

    @Sentence("Patterns: a number of times from 1 to 9")
    static void theTimesOfACallAreFrom1To9() {
        PatternSequencer x = new PatternSequencer();
        x.addCall(1, 0, 1);
        x.addCall(1, 0, 9);
        due(1, x.item(1, 0, 2));
        due(9, x.item(1, 1, 2));
        refusedOutside(1, 9, ARGUMENT, Checks::rich, (y, n) -> y.addCall(1, 0, n));
    }

    @Sentence("Patterns: a call plays its pattern so many times")
    static void playingAnEmptyPatternTakesNoTick() {
        PatternSequencer x = new PatternSequencer();
        x.addCall(1, 0, 9);
        x.addNote(1, 5, 1, 1);
        x.addCall(1, 0, 9);
        x.addNote(1, 6, 1, 1);
        due(0, x.played(1, 0, 0));
        due(1, x.played(1, 1, 0));
        due(2, x.pattern(1, 1));
        due(2, x.pattern(1, 2));
    }

    @Sentence("Patterns: the next item follows after its length")
    static void eachItemFollowsTheLengthOfTheOneBefore() {
        PatternSequencer x = new PatternSequencer();
        x.addNote(0, 5, 3, 1);
        x.addRest(0, 16);
        x.addCall(1, 0, 2);
        x.addNote(1, 6, 1, 1);
        x.addRest(1, 1);
        x.addNote(1, 7, 1, 1);
        int[] ticks = {0, 19, 38, 40};
        for (int k = 0; k < 4; k++) {
            due(ticks[k], x.played(1, k, 0));
        }
        thrown(MISSING, x, y -> y.played(1, 4, 0));
    }

    @Sentence("Patterns: the sum of all that in ticks")
    static void theLengthOfAnEmptyPatternIs0() {
        PatternSequencer x = new PatternSequencer();
        due(0, x.pattern(0, 1));
        x.addCall(1, 0, 9);
        due(0, x.pattern(1, 1));
        x.addRest(0, 1);
        due(9, x.pattern(1, 1));
        x.removeItem(0, 0);
        due(0, x.pattern(1, 1));
    }

    @Sentence("Patterns: it is never greater than 20000")
    static void noPatternIsLongerThan20000() {
        due(20000, withLongest().pattern(3, 1));
        refused(STATE, Checks::withLongest, x -> x.addRest(3, 1));
        refused(STATE, Checks::withLongest, x -> x.addNote(3, 50, 1, 1));
        PatternSequencer x = withLongest();
        x.addCall(7, 3, 1);
        due(20000, x.pattern(7, 1));
        thrown(STATE, x, y -> y.addCall(7, 3, 1));
        due(20000, x.pattern(7, 1));
    }

    // ---- clips

    @Sentence("Clips: There are at most 12 clips")
    static void thereAreAtMostTwelveClips() {
        PatternSequencer x = withMostClips();
        due(12, x.count(0));
        for (int k = 0; k < 12; k++) {
            due(100 * k, x.clip(k, 0));
        }
        refused(STATE, Checks::withMostClips, y -> y.addClip(0, 7, 1, 0, 0));
        x.removeClip(0);
        due(11, x.addClip(5, 7, 1, 0, 0));
        due(5, x.clip(11, 0));
    }

    @Sentence("Clips: a start from 0 to 9999 ticks")
    static void aStartIsFrom0To9999() {
        PatternSequencer x = withNotes(1);
        x.addClip(0, 0, 1, 0, 0);
        x.addClip(9999, 0, 1, 0, 0);
        due(0, x.note(0, 1));
        due(9999, x.note(1, 1));
        refusedOutside(0, 9999, ARGUMENT, Checks::rich, (y, n) -> y.addClip(n, 0, 1, 0, 0));
    }

    @Sentence("Clips: a pattern, a number of times")
    static void thePatternOfAClipIsFrom0To7() {
        PatternSequencer x = new PatternSequencer();
        x.addNote(7, 77, 1, 1);
        x.addNote(0, 11, 1, 1);
        x.addClip(0, 7, 1, 0, 0);
        x.addClip(0, 0, 1, 0, 0);
        due(77, x.note(0, 3));
        due(11, x.note(1, 3));
        refusedOutside(0, 7, ARGUMENT, Checks::rich, (y, n) -> y.addClip(0, n, 1, 0, 0));
    }

    @Sentence("Clips: a number of times from 1 to 9")
    static void theTimesOfAClipAreFrom1To9() {
        PatternSequencer x = withNotes(3);
        x.addClip(0, 0, 1, 0, 0);
        due(1, x.count(1));
        due(3, x.count(8));
        x.addClip(50, 0, 9, 0, 0);
        due(10, x.count(1));
        for (int k = 0; k < 9; k++) {
            due(50 + 3 * k, x.note(1 + k, 1));
        }
        refusedOutside(1, 9, ARGUMENT, Checks::rich, (y, n) -> y.addClip(0, 0, n, 0, 0));
    }

    @Sentence("Clips: a transposition from -50 to 50")
    static void aTranspositionIsFromMinus50To50() {
        PatternSequencer x = withNotes(1);
        x.addClip(0, 3, 1, -50, 0);
        x.addClip(1, 3, 1, 50, 0);
        x.addClip(2, 3, 1, 0, 0);
        due(0, x.note(0, 3));
        due(90, x.note(1, 3));
        due(40, x.note(2, 3));
        due(-50, x.clip(0, 3));
        due(50, x.clip(1, 3));
        refusedOutside(-50, 50, ARGUMENT, Checks::rich, (y, n) -> y.addClip(0, 0, 1, n, 0));
    }

    @Sentence("Clips: and an instrument")
    static void theInstrumentOfAClipIsFrom0To3() {
        PatternSequencer x = withNotes(1);
        x.addClip(0, 0, 1, 0, 0);
        x.addClip(0, 0, 1, 0, 3);
        due(0, x.clip(0, 4));
        due(3, x.clip(1, 4));
        refusedOutside(0, 3, ARGUMENT, Checks::rich, (y, n) -> y.addClip(0, 0, 1, 0, n));
    }

    @Sentence("Clips: is never greater than 20000")
    static void noClipIsLongerThan20000() {
        due(20000, withLongestClip().clip(0, 5));
        refused(STATE, Checks::withLongestClip, x -> x.addClip(0, 2, 9, 0, 0));
        due(1, withLongestClip().addClip(0, 2, 8, 0, 0));
        refused(STATE, Checks::withLongestClip, x -> x.addRest(2, 1));
    }

    @Sentence("Clips: its times times the length of its pattern")
    static void theLengthOfAClipOfAnEmptyPatternIs0() {
        PatternSequencer x = new PatternSequencer();
        x.addClip(9999, 7, 9, 0, 0);
        due(0, x.clip(0, 5));
        due(0, x.clip(0, 6));
    }

    @Sentence("Clips: but at least 0")
    static void aPitchOfAClipIsAtLeast0() {
        int[][] pitches = {{0, -50, 0}, {0, -1, 0}, {49, -50, 0}, {50, -50, 0}, {51, -50, 1}};
        for (int[] one : pitches) {
            PatternSequencer x = new PatternSequencer();
            x.addNote(0, one[0], 1, 1);
            x.addClip(0, 0, 1, one[1], 0);
            due(one[2], x.note(0, 3));
            due(one[0], x.item(0, 0, 1));
        }
    }

    @Sentence("Clips: and at most 99")
    static void aPitchOfAClipIsAtMost99() {
        int[][] pitches = {{99, 50, 99}, {99, 1, 99}, {50, 50, 99}, {49, 50, 99}, {48, 50, 98}};
        for (int[] one : pitches) {
            PatternSequencer x = new PatternSequencer();
            x.addNote(0, one[0], 1, 1);
            x.addClip(0, 0, 1, one[1], 0);
            due(one[2], x.note(0, 3));
            due(one[0], x.item(0, 0, 1));
        }
    }

    @Sentence("Clips: never more than 300")
    static void thereAreNeverMoreThan300Notes() {
        PatternSequencer x = withMostNotes();
        due(300, x.count(1));
        due(299, x.note(299, 1));
        thrown(INDEX, x, y -> y.note(300, 0));
        refused(STATE, Checks::withMostNotes, y -> y.addClip(0, 0, 1, 0, 0));
        refused(STATE, Checks::withMostNotes, y -> y.addNote(0, 1, 1, 1));
        due(1, x.addClip(0, 7, 9, 0, 0));
    }

    @Sentence("Clips: numbered from 0 in ascending order of the ticks at which they begin")
    static void notesAreNumberedByTheirTicks() {
        PatternSequencer x = withNotes(1);
        x.addClip(9999, 0, 1, 0, 0);
        x.addClip(0, 1, 1, 0, 0);
        x.addClip(9998, 2, 1, 0, 0);
        due(1, x.note(0, 0));
        due(2, x.note(1, 0));
        due(0, x.note(2, 0));
        thrown(INDEX, x, y -> y.note(3, 0));
    }

    @Sentence("Clips: those with equal ones by their clips")
    static void notesOfOneTickAreNumberedByTheirClips() {
        PatternSequencer x = withNotes(4);
        for (int k = 0; k < 12; k++) {
            x.addClip(12 - (k % 4) * 4, k % 4, 1 + k % 4, 0, 0);
        }
        // clips 3, 7 and 11 play at 0, 4, 8 and 12, clips 2, 6 and 10 at 4, 8 and 12, and so on
        int[] clips = {3, 7, 11, 2, 3, 6, 7, 10, 11, 1, 2, 3, 5, 6, 7, 9, 10, 11, 0, 1, 2, 3, 4, 5, 6, 7, 8, 9, 10, 11};
        for (int k = 0; k < clips.length; k++) {
            due(clips[k], x.note(k, 0));
        }
        due(clips.length, x.count(1));
    }

    @Sentence("Clips: The end of a note is the tick at which it begins plus its length")
    static void theLastEndOfAllIs29999() {
        PatternSequencer x = new PatternSequencer();
        x.addRest(0, 16);
        x.addRest(0, 4);
        x.addCall(1, 0, 5);
        x.addCall(1, 0, 5);
        x.addCall(2, 1, 5);
        x.addCall(2, 1, 5);
        x.addCall(3, 2, 9);
        x.addCall(3, 1, 9);
        x.addCall(3, 0, 9);
        x.addRest(3, 4);
        x.addNote(3, 50, 16, 9);
        due(20000, x.pattern(3, 1));
        x.addClip(9999, 3, 1, 0, 0);
        x.setSwing(50);
        due(29983, x.note(0, 1));
        due(29999, x.note(0, 2));
        due(29999, x.count(8));
        due(2998300 + 50, x.note(0, 5));
        due(2999900 + 50, x.note(0, 6));
        x.setTempo(0, 1000);
        due(29999500, x.note(0, 7));
    }

    @Sentence("Clips: The end of a note")
    static void theEndsOfTheShortestAndTheLongestNote() {
        PatternSequencer x = new PatternSequencer();
        x.addNote(0, 1, 1, 1);
        x.addNote(0, 1, 16, 1);
        x.addClip(0, 0, 1, 0, 0);
        due(1, x.note(0, 2));
        due(17, x.note(1, 2));
    }

    // ---- tempo

    @Sentence("Tempo: a number of milliseconds, from 1 to 1000")
    static void aTickTakesFrom1To1000Milliseconds() {
        PatternSequencer x = new PatternSequencer();
        x.setTempo(0, 1);
        x.setTempo(1, 1000);
        due(1, x.timeOf(1, true));
        due(1001, x.timeOf(2, true));
        refusedOutside(1, 1000, ARGUMENT, Checks::rich, (y, n) -> y.setTempo(7, n));
    }

    @Sentence("Tempo: the map of tempos has at most 10 such places")
    static void thereAreAtMostTenPlaces() {
        PatternSequencer x = withMostPlaces();
        due(10, x.count(5));
        refused(STATE, Checks::withMostPlaces, y -> y.setTempo(95, 1));
        refused(STATE, Checks::withMostPlaces, y -> y.setTempo(LAST_TICK, 1));
        due(10, x.setTempo(90, 55));
        due(9, x.removeTempo(10));
        due(10, x.setTempo(LAST_TICK, 1));
    }

    @Sentence("Tempo: At first, the only place is tick 0 with 100")
    static void theOnlyPlaceAtFirst() {
        PatternSequencer x = new PatternSequencer();
        due(1, x.count(5));
        due(0, x.place(0));
        thrown(MISSING, x, y -> y.place(1));
        due(100, x.tempo(0));
        due(100, x.tempo(LAST_TICK));
    }

    @Sentence("Tempo: The plain time of a tick is the sum")
    static void thePlainTimesOfTheFirstAndTheLastTick() {
        PatternSequencer x = new PatternSequencer();
        due(0, x.timeOf(0, true));
        x.setTempo(0, 1000);
        due(0, x.timeOf(0, true));
        due(1000, x.timeOf(1, true));
        due(30000000, x.timeOf(LAST_TICK, true));
        x.setTempo(LAST_TICK, 1);
        due(30000000, x.timeOf(LAST_TICK, true));
        x.setTempo(LAST_TICK - 1, 1);
        due(29999001, x.timeOf(LAST_TICK, true));
    }

    @Sentence("Tempo: the milliseconds that all ticks before it take")
    static void aPlaceCountsForTheTicksBehindIt() {
        PatternSequencer x = new PatternSequencer();
        x.setTempo(5, 7);
        due(400, x.timeOf(4, true));
        due(500, x.timeOf(5, true));
        due(507, x.timeOf(6, true));
    }

    @Sentence("Tempo: The swing is from 0 to 50, at first 0")
    static void theSwingIsFrom0To50() {
        PatternSequencer x = new PatternSequencer();
        due(0, x.count(6));
        due(100, x.timeOf(1, false));
        due(0, x.setSwing(50));
        due(150, x.timeOf(1, false));
        due(50, x.setSwing(0));
        due(100, x.timeOf(1, false));
        refusedOutside(0, 50, ARGUMENT, Checks::rich, PatternSequencer::setSwing);
    }

    @Sentence("Tempo: if the tick is odd")
    static void evenTicksDoNotSwing() {
        PatternSequencer x = new PatternSequencer();
        x.setSwing(50);
        due(0, x.timeOf(0, false));
        due(200, x.timeOf(2, false));
        due(3000000, x.timeOf(LAST_TICK, false));
        due(2999950, x.timeOf(LAST_TICK - 1, false));
    }

    @Sentence("Tempo: divided by 100 and rounded down")
    static void whatSwingAddsIsRoundedDown() {
        int[][] added = {{50, 1, 0}, {1, 99, 0}, {1, 100, 1}, {1, 199, 1}, {1, 200, 2}, {33, 3, 0}, {34, 3, 1},
            {49, 999, 489}, {50, 1000, 500}};
        for (int[] one : added) {
            PatternSequencer x = new PatternSequencer();
            x.setSwing(one[0]);
            x.setTempo(0, one[1]);
            due(one[1] + one[2], x.timeOf(1, false));
        }
    }

    // ---- instruments

    @Sentence("Instruments: There are 4 instruments, numbered from 0")
    static void thereAreFourInstruments() {
        PatternSequencer x = new PatternSequencer();
        for (int k = 0; k < 4; k++) {
            x.setPriority(k, k);
        }
        for (int k = 0; k < 4; k++) {
            due(k, x.instrument(k, 4));
        }
        refusedOutside(0, 3, INDEX, Checks::rich, (y, n) -> y.instrument(n, 0));
    }

    @Sentence("Instruments: an attack")
    static void anAttackIsFrom0To5000() {
        PatternSequencer x = new PatternSequencer();
        x.setEnvelope(0, 5000, 0, 100, 0);
        due(5000, x.instrument(0, 0));
        x.setEnvelope(0, 0, 0, 100, 0);
        due(0, x.instrument(0, 0));
        refusedOutside(0, 5000, ARGUMENT, Checks::rich, (y, n) -> y.setEnvelope(1, n, 1, 1, 1));
    }

    @Sentence("Instruments: a decay")
    static void aDecayIsFrom0To5000() {
        PatternSequencer x = new PatternSequencer();
        x.setEnvelope(0, 0, 5000, 100, 0);
        due(5000, x.instrument(0, 1));
        x.setEnvelope(0, 0, 0, 100, 0);
        due(0, x.instrument(0, 1));
        refusedOutside(0, 5000, ARGUMENT, Checks::rich, (y, n) -> y.setEnvelope(1, 1, n, 1, 1));
    }

    @Sentence("Instruments: a release from 0 to 5000 milliseconds")
    static void aReleaseIsFrom0To5000() {
        PatternSequencer x = new PatternSequencer();
        x.setEnvelope(0, 0, 0, 100, 5000);
        due(5000, x.instrument(0, 3));
        x.setEnvelope(0, 0, 0, 100, 0);
        due(0, x.instrument(0, 3));
        refusedOutside(0, 5000, ARGUMENT, Checks::rich, (y, n) -> y.setEnvelope(1, 1, 1, 1, n));
    }

    @Sentence("Instruments: a sustain from 0 to 100")
    static void aSustainIsFrom0To100() {
        PatternSequencer x = new PatternSequencer();
        x.setEnvelope(0, 0, 0, 0, 0);
        due(0, x.instrument(0, 2));
        x.setEnvelope(0, 0, 0, 100, 0);
        due(100, x.instrument(0, 2));
        refusedOutside(0, 100, ARGUMENT, Checks::rich, (y, n) -> y.setEnvelope(1, 1, 1, n, 1));
    }

    @Sentence("Instruments: a priority from 0 to 9")
    static void aPriorityIsFrom0To9() {
        PatternSequencer x = new PatternSequencer();
        x.setPriority(0, 0);
        due(0, x.instrument(0, 4));
        x.setPriority(0, 9);
        due(9, x.instrument(0, 4));
        refusedOutside(0, 9, ARGUMENT, Checks::rich, (y, n) -> y.setPriority(1, n));
    }

    @Sentence("Instruments: at first 0, 0, 0, 100 and 5")
    static void instrumentsAtFirst() {
        int[] numbers = {0, 0, 100, 0, 5};
        PatternSequencer x = new PatternSequencer();
        for (int k = 0; k < 4; k++) {
            for (int what = 0; what <= 4; what++) {
                due(numbers[what], x.instrument(k, what));
            }
        }
    }

    public static void main(String[] arguments) throws Exception {
        run(SongDescriptionTest.class);
    }
}

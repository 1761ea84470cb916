/** The sentences of promises 10 to 24, on clips, notes, tempo and swing: their edges, and what they refuse. */
public final class ClipSentencesTest extends Checks {

    // ---- promise 10: addClip

    @Sentence("Promise 10: Adds a clip")
    static void aClipIsAddedBehindTheLastOne() {
        PatternSequencer x = new PatternSequencer();
        for (int k = 0; k < 12; k++) {
            due(k, x.addClip(9999 - k, 7, 9, 50 - k, 3));
            due(k + 1, x.count(0));
        }
        for (int k = 0; k < 12; k++) {
            due(9999 - k, x.clip(k, 0));
            due(50 - k, x.clip(k, 3));
        }
    }

    @Sentence("Promise 10: start: the start")
    static void addClipTakesStartsFrom0To9999() {
        PatternSequencer x = new PatternSequencer();
        x.addClip(0, 0, 1, 0, 0);
        x.addClip(9999, 0, 1, 0, 0);
        due(0, x.clip(0, 0));
        due(9999, x.clip(1, 0));
    }

    @Sentence("Promise 10: pattern: the pattern")
    static void addClipTakesPatternsFrom0To7() {
        PatternSequencer x = new PatternSequencer();
        x.addClip(0, 0, 1, 0, 0);
        x.addClip(0, 7, 1, 0, 0);
        due(0, x.clip(0, 1));
        due(7, x.clip(1, 1));
    }

    @Sentence("Promise 10: times: the number of times")
    static void addClipTakesFrom1To9Times() {
        PatternSequencer x = new PatternSequencer();
        x.addClip(0, 0, 1, 0, 0);
        x.addClip(0, 0, 9, 0, 0);
        due(1, x.clip(0, 2));
        due(9, x.clip(1, 2));
    }

    @Sentence("Promise 10: transposition: the transposition")
    static void addClipTakesTranspositionsFromMinus50To50() {
        PatternSequencer x = new PatternSequencer();
        x.addClip(0, 0, 1, -50, 0);
        x.addClip(0, 0, 1, 50, 0);
        due(-50, x.clip(0, 3));
        due(50, x.clip(1, 3));
    }

    @Sentence("Promise 10: instrument: the instrument")
    static void addClipTakesInstrumentsFrom0To3() {
        PatternSequencer x = new PatternSequencer();
        x.addClip(0, 0, 1, 0, 0);
        x.addClip(0, 0, 1, 0, 3);
        due(0, x.clip(0, 4));
        due(3, x.clip(1, 4));
    }

    @Sentence("Promise 10: Returns the number of the clip")
    static void addClipReturnsFrom0To11() {
        PatternSequencer x = new PatternSequencer();
        for (int k = 0; k < 12; k++) {
            due(k, x.addClip(0, 0, 1, 0, 0));
        }
        x.removeClip(0);
        x.removeClip(0);
        due(10, x.addClip(0, 0, 1, 0, 0));
        x.clear();
        due(0, x.addClip(0, 0, 1, 0, 0));
    }

    @Sentence("Promise 10: Throws IllegalArgumentException if a number is out of range")
    static void addClipWithNumbersOutOfRange() {
        refusedOutside(0, 9999, ARGUMENT, Checks::rich, (x, n) -> x.addClip(n, 7, 1, 0, 0));
        refusedOutside(0, 7, ARGUMENT, Checks::rich, (x, n) -> x.addClip(0, n, 1, 0, 0));
        refusedOutside(1, 9, ARGUMENT, Checks::rich, (x, n) -> x.addClip(0, 7, n, 0, 0));
        refusedOutside(-50, 50, ARGUMENT, Checks::rich, (x, n) -> x.addClip(0, 7, 1, n, 0));
        refusedOutside(0, 3, ARGUMENT, Checks::rich, (x, n) -> x.addClip(0, 7, 1, 0, n));
    }

    @Sentence("Promise 10: Throws IllegalStateException if there are 12 clips")
    static void addClipToTwelve() {
        refused(STATE, Checks::withMostClips, x -> x.addClip(0, 7, 1, 0, 0));
        PatternSequencer x = withMostClips();
        x.removeClip(11);
        due(11, x.addClip(0, 7, 1, 0, 0));
    }

    @Sentence("Promise 10: or the change would be too great")
    static void addClipThatIsTooGreat() {
        refused(STATE, Checks::withLongest, x -> x.addClip(0, 3, 2, 0, 0));
        refused(STATE, Checks::withLongest, x -> x.addClip(0, 3, 9, 0, 0));
        refused(STATE, Checks::withMostNotes, x -> x.addClip(0, 0, 1, 0, 0));
        due(0, withLongest().addClip(9999, 3, 1, 0, 0));
        due(0, withLongest().addClip(0, 2, 9, 0, 0));
        due(1, withMostNotes().addClip(0, 3, 9, 0, 0));
        PatternSequencer loud = new PatternSequencer();
        loud.addNote(0, 1, 1, 1);
        loud.addCall(1, 0, 9);
        loud.addCall(2, 1, 9);
        loud.addCall(3, 2, 9);
        thrown(STATE, loud, y -> y.addClip(0, 3, 1, 0, 0));
        due(0, loud.addClip(0, 2, 3, 0, 0));
        thrown(STATE, loud, y -> y.addClip(0, 2, 1, 0, 0));
    }

    // ---- promise 11: removeClip

    @Sentence("Promise 11: Removes a clip; the numbers of the later ones decrease by 1")
    static void theFirstAMiddleAndTheLastClipAreRemoved() {
        PatternSequencer x = withMostClips();
        x.removeClip(0);
        for (int k = 0; k < 11; k++) {
            due(100 * (k + 1), x.clip(k, 0));
            due(k + 1, x.clip(k, 3));
        }
        x.removeClip(10);
        x.removeClip(4);
        int[] starts = {100, 200, 300, 400, 600, 700, 800, 900, 1000};
        for (int k = 0; k < 9; k++) {
            due(starts[k], x.clip(k, 0));
            due(starts[k] / 100 % 4, x.clip(k, 4));
        }
        thrown(INDEX, x, y -> y.clip(9, 0));
    }

    @Sentence("Promise 11: Removes a clip")
    static void theNotesOfARemovedClipAreGone() {
        PatternSequencer x = withMostClips();
        x.removeClip(0);
        due(11, x.count(1));
        due(0, x.note(0, 0));
        due(100, x.note(0, 1));
        due(10, x.note(10, 0));
        due(2, x.instrument(0, 5));
    }

    @Sentence("Promise 11: Removes a")
    static void theNotesOfARemovedClipDoNotSoundAnyMore() {
        PatternSequencer x = withClips(2, 2);
        due(3, x.sounding(200));
        due(300, x.mix(200));
        due(1, x.noteOn(1, 200));
        due(400, x.busy(1));
        due(2, x.polyphony());
        x.removeClip(1);
        due(1, x.sounding(200));
        due(100, x.mix(200));
        thrown(MISSING, x, y -> y.noteOn(1, 200));
        due(0, x.busy(1));
        due(1, x.polyphony());
        due(2, x.eventCount());
        thrown(MISSING, x, y -> y.eventFrom(401));
        x.removeClip(0);
        due(0, x.sounding(200));
        due(0, x.mix(200));
        thrown(MISSING, x, y -> y.noteOn(0, 200));
        due(0, x.busy(0));
        due(0, x.polyphony());
        due(0, x.eventCount());
        thrown(MISSING, x, y -> y.eventFrom(0));
        thrown(ARITHMETIC, x, PatternSequencer::lostShare);
    }

    @Sentence("Promise 11: a clip; the numbers of the later ones")
    static void aRemovedClipDoesNotMakeAChangeTooGreat() {
        PatternSequencer notes = withMostNotes();
        notes.removeClip(0);
        due(2, notes.addNote(0, 1, 1, 1));
        PatternSequencer ticks = withLongestClip();
        ticks.removeClip(0);
        due(3, ticks.addRest(2, 16));
        PatternSequencer two = withMostNotes();
        two.removeClip(0);
        two.addClip(0, 7, 1, 0, 0);
        two.addClip(0, 2, 3, 0, 0);
        thrown(STATE, two, y -> y.addNote(0, 1, 1, 1));
        two.removeClip(1);
        due(2, two.addNote(0, 1, 1, 1));
    }

    @Sentence("Promise 11: clip: the number of the clip")
    static void removeClipTakesNumbersFrom0() {
        PatternSequencer x = withMostClips();
        due(11, x.removeClip(11));
        due(1000, x.clip(10, 0));
        due(10, x.removeClip(0));
        due(100, x.clip(0, 0));
    }

    @Sentence("Promise 11: Returns the number of clips that remain")
    static void removeClipReturnsFrom11To0() {
        PatternSequencer x = withMostClips();
        for (int left = 11; left >= 0; left--) {
            due(left, x.removeClip(left / 2));
            due(left, x.count(0));
            due(left, x.count(1));
        }
    }

    @Sentence("Promise 11: Throws IndexOutOfBoundsException if there is no such clip")
    static void removeClipOfNoClip() {
        refusedOutside(0, 1, INDEX, Checks::rich, PatternSequencer::removeClip);
        refusedOutside(0, 11, INDEX, Checks::withMostClips, PatternSequencer::removeClip);
        refused(INDEX, PatternSequencer::new, x -> x.removeClip(0));
    }

    // ---- promise 12: moveClip

    @Sentence("Promise 12: Moves a clip to another start")
    static void aClipIsMovedToTheFirstAndTheLastStart() {
        PatternSequencer x = withNotes(1);
        x.addClip(50, 0, 1, 7, 1);
        x.addClip(50, 1, 1, 8, 2);
        x.moveClip(0, 9999);
        due(1, x.note(0, 0));
        due(9999, x.note(1, 1));
        x.moveClip(0, 0);
        due(0, x.note(0, 0));
        due(50, x.note(1, 1));
        int[] numbers = {0, 0, 1, 7, 1, 1, 1};
        for (int what = 0; what <= 6; what++) {
            due(numbers[what], x.clip(0, what));
        }
    }

    @Sentence("Promise 12: Moves a clip")
    static void theClipThatIsMovedKeepsItsNumber() {
        PatternSequencer x = withMostClips();
        x.moveClip(11, 0);
        x.moveClip(0, 9999);
        due(0, x.clip(11, 0));
        due(9999, x.clip(0, 0));
        due(11, x.clip(11, 3));
        due(0, x.note(11, 0));
        due(11, x.note(0, 0));
    }

    @Sentence("Promise 12: clip: the number of the clip")
    static void moveClipTakesNumbersFrom0() {
        PatternSequencer x = withMostClips();
        due(0, x.moveClip(0, 5));
        due(1100, x.moveClip(11, 6));
        due(5, x.clip(0, 0));
        due(6, x.clip(11, 0));
    }

    @Sentence("Promise 12: start: the start")
    static void moveClipTakesStartsFrom0To9999() {
        PatternSequencer x = rich();
        x.moveClip(0, 0);
        x.moveClip(1, 9999);
        due(0, x.clip(0, 0));
        due(9999, x.clip(1, 0));
    }

    @Sentence("Promise 12: Returns the previous start")
    static void moveClipReturnsThePreviousStart() {
        PatternSequencer x = withNotes(1);
        x.addClip(0, 0, 1, 0, 0);
        due(0, x.moveClip(0, 9999));
        due(9999, x.moveClip(0, 9999));
        due(9999, x.moveClip(0, 0));
    }

    @Sentence("Promise 12: Throws IndexOutOfBoundsException if there is no such clip")
    static void moveClipOfNoClip() {
        refusedOutside(0, 1, INDEX, Checks::rich, (x, n) -> x.moveClip(n, 5));
        refusedOutside(0, 11, INDEX, Checks::withMostClips, (x, n) -> x.moveClip(n, 5));
        refused(INDEX, PatternSequencer::new, x -> x.moveClip(0, 5));
    }

    @Sentence("Promise 12: Throws IllegalArgumentException if start is out of range")
    static void moveClipToAStartOutOfRange() {
        refusedOutside(0, 9999, ARGUMENT, Checks::rich, (x, n) -> x.moveClip(1, n));
    }

    // ---- promise 13: clip

    @Sentence("Promise 13: clip: the number of the clip")
    static void theFirstAndTheLastClip() {
        PatternSequencer x = withMostClips();
        due(0, x.clip(0, 0));
        due(1100, x.clip(11, 0));
    }

    @Sentence("Promise 13: 5 for its length, 6 for the number of its notes")
    static void theLengthAndTheNotesOfAClip() {
        PatternSequencer x = withMostNotes();
        int[] numbers = {0, 2, 3, 0, 0, 300, 300};
        for (int what = 0; what <= 6; what++) {
            due(numbers[what], x.clip(0, what));
        }
        x.addClip(1, 7, 9, -50, 3);
        due(0, x.clip(1, 5));
        due(0, x.clip(1, 6));
        due(20000, withLongestClip().clip(0, 5));
        due(0, withLongestClip().clip(0, 6));
    }

    @Sentence("Promise 13: Throws IndexOutOfBoundsException if there is no such clip")
    static void clipOfNoNumber() {
        refusedOutside(0, 1, INDEX, Checks::rich, (x, n) -> x.clip(n, 0));
        refusedOutside(0, 11, INDEX, Checks::withMostClips, (x, n) -> x.clip(n, 6));
        refused(INDEX, PatternSequencer::new, x -> x.clip(0, 0));
    }

    @Sentence("Promise 13: Throws IllegalArgumentException if what is not 0 to 6")
    static void clipWithAnotherWhat() {
        refusedOutside(0, 6, ARGUMENT, Checks::rich, (x, n) -> x.clip(0, n));
        refusedOutside(0, 6, ARGUMENT, Checks::rich, (x, n) -> x.clip(1, n));
    }

    // ---- promise 14: count

    @Sentence("Promise 14: what: 0 for clips, 1 for notes, 2 for dropped notes, 3 for cut notes, 4 for voices")
    static void theCountsOfANewObject() {
        int[] counts = {0, 0, 0, 0, 4, 1, 0, 0, 0};
        for (int what = 0; what <= 8; what++) {
            due(counts[what], new PatternSequencer().count(what));
        }
    }

    @Sentence("Promise 14: 0 for clips, 1 for notes, 2 for dropped notes, 3 for cut notes")
    static void theGreatestCounts() {
        due(12, withMostClips().count(0));
        due(300, withMostNotes().count(1));
        due(10, withMostPlaces().count(5));
        PatternSequencer x = withMostNotes();
        x.setVoices(8);
        due(8, x.count(4));
        x.setSwing(50);
        due(50, x.count(6));
        x.setRule(2);
        due(2, x.count(7));
        due(0, x.count(2));
        due(0, x.count(3));
        x.setRule(0);
        x.setEnvelope(0, 0, 0, 100, 5000);
        due(300 - 8, x.count(3));
        due(0, x.count(2));
    }

    @Sentence("Promise 14: 2 for dropped notes")
    static void allNotesThatBeginWhileAHigherPrioritySoundsAreDropped() {
        PatternSequencer x = withMostNotes();
        x.removeClip(0);
        x.setVoices(1);
        x.setEnvelope(0, 0, 0, 100, 5000);
        x.setPriority(0, 6);
        x.addClip(0, 2, 2, 0, 1);
        x.addClip(0, 1, 9, 0, 1);
        x.addClip(0, 0, 1, 0, 0);
        // the note of instrument 0 comes first, and sounds until 5100: both notes of each tick from 0 to 50 are dropped
        due(291, x.count(1));
        due(2 * 51, x.count(2));
    }

    @Sentence("Promise 14: 8 for the greatest end of a note in ticks, 0 without notes")
    static void theGreatestEnd() {
        PatternSequencer x = new PatternSequencer();
        due(0, x.count(8));
        x.addRest(0, 16);
        x.addClip(9999, 0, 9, 0, 0);
        due(0, x.count(8));
        x.addNote(1, 5, 16, 1);
        x.addNote(1, 5, 1, 1);
        x.addClip(7, 1, 1, 0, 0);
        due(24, x.count(8));
        x.removeItem(1, 1);
        due(23, x.count(8));
        x.addNote(2, 1, 1, 1);
        x.addClip(8, 2, 1, 0, 0);
        due(23, x.count(8));
        x.removeClip(1);
        due(9, x.count(8));
    }

    @Sentence("Promise 14: 8 for the greatest end of a note")
    static void theGreatestEndIsThatOfADroppedNoteToo() {
        PatternSequencer x = withClips(2, 1);
        due(5, x.count(8));
        x.setPriority(1, 0);
        due(1, x.count(2));
        due(5, x.count(8));
    }

    @Sentence("Promise 14: Throws IllegalArgumentException if what is not 0 to 8")
    static void countWithAnotherWhat() {
        refusedOutside(0, 8, ARGUMENT, Checks::rich, PatternSequencer::count);
        refusedOutside(0, 8, ARGUMENT, PatternSequencer::new, PatternSequencer::count);
    }

    // ---- promise 15: note

    @Sentence("Promise 15: note: the number of the note")
    static void theFirstAndTheLastOf300Notes() {
        PatternSequencer x = withMostNotes();
        due(0, x.note(0, 1));
        due(0, x.note(0, 5));
        due(299, x.note(299, 1));
        due(300, x.note(299, 2));
        due(30000, x.note(299, 7));
    }

    @Sentence("Promise 15: 7 for the time at which it stops, -1 if it is dropped")
    static void aDroppedNoteStopsAtMinus1() {
        PatternSequencer x = withClips(2, 1);
        due(500, x.note(1, 7));
        x.setPriority(1, 4);
        due(-1, x.note(1, 7));
        due(100, x.note(1, 5));
        due(500, x.note(1, 6));
        due(400, x.note(0, 7));
    }

    @Sentence("Promise 15: 8 for its voice, -1 if it is dropped")
    static void aDroppedNoteHasVoiceMinus1() {
        PatternSequencer x = withClips(2, 1);
        due(0, x.note(1, 8));
        x.setPriority(1, 4);
        due(-1, x.note(1, 8));
        due(0, x.note(0, 8));
        PatternSequencer most = new PatternSequencer();
        most.addNote(0, 1, 1, 1);
        most.setVoices(8);
        for (int k = 0; k < 8; k++) {
            most.addClip(0, 0, 1, k, 0);
        }
        due(7, most.note(7, 8));
    }

    @Sentence("Promise 15: 5 for the time of its beginning, 6 for the time of its end")
    static void theTimesOfANoteAreSwung() {
        PatternSequencer x = new PatternSequencer();
        x.addNote(0, 1, 2, 1);
        x.addNote(0, 1, 1, 1);
        x.addClip(1, 0, 1, 0, 0);
        x.setSwing(50);
        due(150, x.note(0, 5));
        due(350, x.note(0, 6));
        due(350, x.note(1, 5));
        due(400, x.note(1, 6));
        x.setTempo(0, 1);
        due(1, x.note(0, 5));
        due(3, x.note(1, 5));
    }

    @Sentence("Promise 15: Throws IndexOutOfBoundsException if there is no such note")
    static void noteOfNoNumber() {
        refusedOutside(0, 8, INDEX, Checks::rich, (x, n) -> x.note(n, 0));
        refusedOutside(0, 299, INDEX, Checks::withMostNotes, (x, n) -> x.note(n, 0));
        refused(INDEX, PatternSequencer::new, x -> x.note(0, 0));
    }

    @Sentence("Promise 15: Throws IllegalArgumentException if what is not 0 to 8")
    static void noteWithAnotherWhat() {
        refusedOutside(0, 8, ARGUMENT, Checks::rich, (x, n) -> x.note(0, n));
        refusedOutside(0, 8, ARGUMENT, Checks::withMostNotes, (x, n) -> x.note(299, n));
    }

    // ---- promise 16: isCut

    @Sentence("Promise 16: Returns whether a note is cut")
    static void aNoteThatStopsByItselfOrIsDroppedIsNotCut() {
        PatternSequencer x = withClips(2, 1);
        due(true, x.isCut(0));
        due(false, x.isCut(1));
        x.setPriority(1, 4);
        due(false, x.isCut(0));
        due(false, x.isCut(1));
        x.setVoices(2);
        due(false, x.isCut(0));
    }

    @Sentence("Promise 16: Returns true if it is")
    static void aNoteIsCutOneMillisecondBeforeItsEnd() {
        PatternSequencer x = withNotes(4);
        x.setVoices(1);
        x.addClip(0, 0, 1, 0, 0);
        x.addClip(4, 0, 1, 0, 1);
        due(false, x.isCut(0));
        x.setEnvelope(0, 0, 0, 0, 1);
        due(true, x.isCut(0));
    }

    @Sentence("Promise 16: note: the number of the note")
    static void isCutOfTheFirstAndTheLastOf300Notes() {
        PatternSequencer x = withMostNotes();
        x.setVoices(1);
        x.setEnvelope(0, 0, 0, 100, 1);
        due(true, x.isCut(0));
        due(true, x.isCut(298));
        due(false, x.isCut(299));
    }

    @Sentence("Promise 16: Throws IndexOutOfBoundsException if there is no such note")
    static void isCutOfNoNote() {
        refusedOutside(0, 8, INDEX, Checks::rich, PatternSequencer::isCut);
        refusedOutside(0, 299, INDEX, Checks::withMostNotes, PatternSequencer::isCut);
        refused(INDEX, PatternSequencer::new, x -> x.isCut(0));
    }

    // ---- promise 17: cutBy

    @Sentence("Promise 17: Returns the note that got the voice of a cut note")
    static void aNoteMayBeCutByOneWithALowerNumber() {
        PatternSequencer x = withNotes(4);
        x.setVoices(1);
        x.addClip(0, 1, 1, 0, 0);
        x.addClip(0, 0, 1, 0, 0);
        due(0, x.cutBy(1));
        thrown(MISSING, x, y -> y.cutBy(0));
    }

    @Sentence("Promise 17: note: the number of the note")
    static void cutByOfTheFirstAndTheLastOf300Notes() {
        PatternSequencer x = withMostNotes();
        x.setVoices(1);
        x.setEnvelope(0, 0, 0, 100, 1);
        due(1, x.cutBy(0));
        due(299, x.cutBy(298));
        thrown(MISSING, x, y -> y.cutBy(299));
    }

    @Sentence("Promise 17: Throws IndexOutOfBoundsException if there is no such note")
    static void cutByOfNoNote() {
        refusedOutside(0, 8, INDEX, Checks::rich, PatternSequencer::cutBy);
        refusedOutside(0, 299, INDEX, Checks::withMostNotes, PatternSequencer::cutBy);
        refused(INDEX, PatternSequencer::new, x -> x.cutBy(0));
    }

    @Sentence("Promise 17: Throws NoSuchElementException if the note is not cut")
    static void cutByOfANoteThatIsNotCut() {
        refused(MISSING, () -> withClips(2, 1), x -> x.cutBy(1));
        PatternSequencer x = withClips(2, 1);
        x.setPriority(1, 4);
        thrown(MISSING, x, y -> y.cutBy(0));
        thrown(MISSING, x, y -> y.cutBy(1));
        refused(MISSING, Checks::withMostNotes, y -> y.cutBy(0));
    }

    // ---- promise 18: setTempo

    @Sentence("Promise 18: Sets the milliseconds that a tick takes from a tick on, up to the next place")
    static void aTempoHoldsUpToTheNextPlace() {
        PatternSequencer x = new PatternSequencer();
        x.setTempo(20, 2);
        x.setTempo(10, 1);
        due(100, x.tempo(9));
        due(1, x.tempo(10));
        due(1, x.tempo(19));
        due(2, x.tempo(20));
        due(2, x.tempo(LAST_TICK));
        x.setTempo(10, 3);
        due(100, x.tempo(9));
        due(3, x.tempo(19));
        due(2, x.tempo(20));
    }

    @Sentence("Promise 18: tick: the tick, 0 to 30000")
    static void setTempoTakesTicksFrom0To30000() {
        PatternSequencer x = new PatternSequencer();
        due(1, x.setTempo(0, 7));
        due(2, x.setTempo(LAST_TICK, 8));
        due(7, x.tempo(0));
        due(7, x.tempo(LAST_TICK - 1));
        due(8, x.tempo(LAST_TICK));
    }

    @Sentence("Promise 18: milliseconds: the milliseconds, 1 to 1000")
    static void setTempoTakesFrom1To1000Milliseconds() {
        PatternSequencer x = new PatternSequencer();
        x.setTempo(0, 1);
        due(1, x.tempo(0));
        x.setTempo(0, 1000);
        due(1000, x.tempo(0));
    }

    @Sentence("Promise 18: Returns the number of places then")
    static void setTempoReturnsFrom1To10() {
        PatternSequencer x = new PatternSequencer();
        due(1, x.setTempo(0, 5));
        for (int k = 2; k <= 10; k++) {
            due(k, x.setTempo(100 - k, 5));
            due(k, x.setTempo(100 - k, 6));
        }
        for (int k = 1; k < 10; k++) {
            due(89 + k, x.place(k));
        }
    }

    @Sentence("Promise 18: Throws IllegalArgumentException if a number is out of range")
    static void setTempoWithNumbersOutOfRange() {
        refusedOutside(0, LAST_TICK, ARGUMENT, Checks::rich, (x, n) -> x.setTempo(n, 5));
        refusedOutside(1, 1000, ARGUMENT, Checks::rich, (x, n) -> x.setTempo(0, n));
        refusedOutside(1, 1000, ARGUMENT, Checks::rich, (x, n) -> x.setTempo(5, n));
    }

    @Sentence("Promise 18: Throws IllegalStateException if there are 10 places, and none at this tick")
    static void setTempoWithTenPlaces() {
        for (int tick : new int[] {1, 9, 11, 45, 89, 91, LAST_TICK}) {
            refused(STATE, Checks::withMostPlaces, x -> x.setTempo(tick, 5));
        }
        PatternSequencer x = withMostPlaces();
        for (int k = 0; k < 10; k++) {
            due(10, x.setTempo(10 * k, 500 + k));
            due(500 + k, x.tempo(10 * k));
        }
    }

    // ---- promise 19: removeTempo

    @Sentence("Promise 19: Removes a place of the map of tempos")
    static void theSecondAMiddleAndTheLastPlaceAreRemoved() {
        PatternSequencer x = withMostPlaces();
        x.removeTempo(10);
        due(100, x.tempo(10));
        due(2, x.tempo(20));
        x.removeTempo(90);
        due(8, x.tempo(LAST_TICK));
        x.removeTempo(50);
        due(4, x.tempo(50));
        due(6, x.tempo(60));
        int[] places = {0, 20, 30, 40, 60, 70, 80};
        for (int k = 0; k < places.length; k++) {
            due(places[k], x.place(k));
        }
        due(7, x.count(5));
    }

    @Sentence("Promise 19: tick: the tick of the place")
    static void removeTempoOfTheLastTick() {
        PatternSequencer x = new PatternSequencer();
        x.setTempo(1, 7);
        x.setTempo(LAST_TICK, 7);
        due(2, x.removeTempo(LAST_TICK));
        due(1, x.removeTempo(1));
        due(100, x.tempo(LAST_TICK));
    }

    @Sentence("Promise 19: Returns the number of places that remain")
    static void removeTempoReturnsFrom9To1() {
        PatternSequencer x = withMostPlaces();
        for (int left = 9; left >= 1; left--) {
            due(left, x.removeTempo(10 * left));
        }
        due(1, x.count(5));
        due(0, x.place(0));
    }

    @Sentence("Promise 19: Throws IllegalArgumentException if tick is 0")
    static void removeTempoOfTick0() {
        refused(ARGUMENT, PatternSequencer::new, x -> x.removeTempo(0));
        refused(ARGUMENT, Checks::withMostPlaces, x -> x.removeTempo(0));
    }

    @Sentence("Promise 19: Throws NoSuchElementException if there is no place at this tick")
    static void removeTempoOfNoPlace() {
        for (int tick : new int[] {1, 9, 11, 91, LAST_TICK}) {
            refused(MISSING, Checks::withMostPlaces, x -> x.removeTempo(tick));
        }
        refusedOutside(0, LAST_TICK, MISSING, Checks::withMostPlaces, PatternSequencer::removeTempo);
        PatternSequencer x = withMostPlaces();
        x.removeTempo(90);
        thrown(MISSING, x, y -> y.removeTempo(90));
    }

    // ---- promise 20: tempo

    @Sentence("Promise 20: Returns the milliseconds that a tick takes")
    static void theTempoJustBeforeAndAtAPlace() {
        PatternSequencer x = withMostPlaces();
        due(100, x.tempo(9));
        for (int k = 1; k < 10; k++) {
            due(k, x.tempo(10 * k));
            due(k, x.tempo(10 * k + 9));
        }
    }

    @Sentence("Promise 20: tick: the tick, 0 to 30000")
    static void tempoTakesTicksFrom0To30000() {
        PatternSequencer x = new PatternSequencer();
        x.setTempo(LAST_TICK, 9);
        due(100, x.tempo(0));
        due(100, x.tempo(LAST_TICK - 1));
        due(9, x.tempo(LAST_TICK));
    }

    @Sentence("Promise 20: Throws IllegalArgumentException if tick is out of range")
    static void tempoOfATickOutOfRange() {
        refusedOutside(0, LAST_TICK, ARGUMENT, Checks::rich, PatternSequencer::tempo);
    }

    // ---- promise 21: place

    @Sentence("Promise 21: index: the index in ascending order of the ticks, from 0")
    static void placesAreInAscendingOrder() {
        PatternSequencer x = new PatternSequencer();
        int[] ticks = {5, LAST_TICK, 1, 3, 4, 2, 29999};
        for (int tick : ticks) {
            x.setTempo(tick, 5);
        }
        int[] places = {0, 1, 2, 3, 4, 5, 29999, LAST_TICK};
        for (int k = 0; k < places.length; k++) {
            due(places[k], x.place(k));
        }
    }

    @Sentence("Promise 21: Returns the tick of a place")
    static void theFirstAndTheTenthPlace() {
        due(0, withMostPlaces().place(0));
        due(90, withMostPlaces().place(9));
    }

    @Sentence("Promise 21: Throws NoSuchElementException if there is no such place")
    static void placeOfNoIndex() {
        refusedOutside(0, 0, MISSING, PatternSequencer::new, PatternSequencer::place);
        refusedOutside(0, 2, MISSING, Checks::rich, PatternSequencer::place);
        refusedOutside(0, 9, MISSING, Checks::withMostPlaces, PatternSequencer::place);
    }

    // ---- promise 22: setSwing

    @Sentence("Promise 22: Sets the swing")
    static void theLeastAndTheGreatestSwing() {
        PatternSequencer x = new PatternSequencer();
        x.setSwing(50);
        due(50, x.count(6));
        due(150, x.timeOf(1, false));
        x.setSwing(0);
        due(0, x.count(6));
        due(100, x.timeOf(1, false));
        x.setSwing(1);
        due(101, x.timeOf(1, false));
    }

    @Sentence("Promise 22: swing: the swing")
    static void setSwingTakesFrom0To50() {
        PatternSequencer x = new PatternSequencer();
        x.setSwing(0);
        x.setSwing(50);
        due(50, x.setSwing(50));
    }

    @Sentence("Promise 22: Returns the previous swing")
    static void setSwingReturnsThePreviousOne() {
        PatternSequencer x = new PatternSequencer();
        due(0, x.setSwing(50));
        due(50, x.setSwing(50));
        due(50, x.setSwing(0));
        due(0, x.setSwing(0));
    }

    @Sentence("Promise 22: Throws IllegalArgumentException if swing is out of range")
    static void setSwingOutOfRange() {
        refusedOutside(0, 50, ARGUMENT, Checks::rich, PatternSequencer::setSwing);
    }

    // ---- promise 23: timeOf

    @Sentence("Promise 23: Returns the time of a tick")
    static void theTimesOfTheFirstAndTheLastTick() {
        PatternSequencer x = new PatternSequencer();
        x.setSwing(50);
        due(0, x.timeOf(0, false));
        due(3000000, x.timeOf(LAST_TICK, false));
        x.setTempo(0, 1000);
        due(30000000, x.timeOf(LAST_TICK, false));
        x.setTempo(0, 1);
        due(30000, x.timeOf(LAST_TICK, false));
        due(29999, x.timeOf(LAST_TICK - 1, false));
    }

    @Sentence("Promise 23: tick: the tick, 0 to 30000")
    static void timeOfTakesTicksFrom0To30000() {
        PatternSequencer x = withMostPlaces();
        due(0, x.timeOf(0, true));
        // ticks 0 to 9 take 100 each, 10 to 89 take 1 to 8, and the rest take 9
        due(1000 + 10 * 36 + 9 * 29910, x.timeOf(LAST_TICK, true));
    }

    @Sentence("Promise 23: isPlain: true for the plain time")
    static void thePlainTimeHasNoSwing() {
        PatternSequencer x = new PatternSequencer();
        x.setSwing(50);
        due(2999900, x.timeOf(LAST_TICK - 1, true));
        due(2999950, x.timeOf(LAST_TICK - 1, false));
        due(100, x.timeOf(1, true));
        due(200, x.timeOf(2, true));
        due(200, x.timeOf(2, false));
    }

    @Sentence("Promise 23: Throws IllegalArgumentException if tick is out of range")
    static void timeOfATickOutOfRange() {
        refusedOutside(0, LAST_TICK, ARGUMENT, Checks::rich, (x, n) -> x.timeOf(n, true));
        refusedOutside(0, LAST_TICK, ARGUMENT, Checks::rich, (x, n) -> x.timeOf(n, false));
    }

    // ---- promise 24: tickAt

    @Sentence("Promise 24: Returns the last tick, up to 30000")
    static void noTickIsBehind30000() {
        PatternSequencer x = new PatternSequencer();
        due(29999, x.tickAt(2999999));
        due(30000, x.tickAt(3000000));
        due(30000, x.tickAt(3000100));
        due(30000, x.tickAt(LAST_TIME));
        x.setTempo(LAST_TICK, 1);
        due(30000, x.tickAt(3000000));
        due(30000, x.tickAt(3000001));
        due(29999, x.tickAt(2999999));
        x.setTempo(0, 1000);
        due(29999, x.tickAt(29999999));
        due(30000, x.tickAt(30000000));
        x.setTempo(0, 1);
        due(30000, x.tickAt(30001));
        due(30000, x.tickAt(LAST_TIME));
    }

    @Sentence("Promise 24: whose plain time is not greater than a time")
    static void theTickAtJustBeforeAndAtItsTime() {
        PatternSequencer x = withMostPlaces();
        x.setSwing(50);
        due(9, x.tickAt(999));
        due(10, x.tickAt(1000));
        due(11, x.tickAt(1001));
        due(19, x.tickAt(1009));
        due(20, x.tickAt(1010));
        due(20, x.tickAt(1011));
        due(21, x.tickAt(1012));
        due(89, x.tickAt(1359));
        due(90, x.tickAt(1360));
        due(90, x.tickAt(1368));
        due(91, x.tickAt(1369));
        due(0, x.tickAt(99));
        due(1, x.tickAt(100));
    }

    @Sentence("Promise 24: time: the time, 0 to 40000000")
    static void tickAtTakesTimesFrom0To40000000() {
        PatternSequencer x = new PatternSequencer();
        due(0, x.tickAt(0));
        due(30000, x.tickAt(LAST_TIME));
    }

    @Sentence("Promise 24: Throws IllegalArgumentException if time is out of range")
    static void tickAtATimeOutOfRange() {
        refusedOutside(0, LAST_TIME, ARGUMENT, Checks::rich, PatternSequencer::tickAt);
    }

    public static void main(String[] arguments) throws Exception {
        run(ClipSentencesTest.class);
    }
}

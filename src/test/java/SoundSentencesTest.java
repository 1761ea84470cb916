/** The sentences of promises 25 to 39, on instruments, voices, levels and events: their edges, and what they refuse. */
public final class SoundSentencesTest extends Checks {

    // ---- promise 25: setEnvelope

    @Sentence("Promise 25: Sets the envelope of an instrument")
    static void theEnvelopeOfOneInstrumentAloneIsSet() {
        PatternSequencer x = new PatternSequencer();
        x.setPriority(2, 7);
        x.setEnvelope(2, 5000, 4999, 0, 1);
        int[][] numbers = {{0, 0, 100, 0, 5}, {0, 0, 100, 0, 5}, {5000, 4999, 0, 1, 7}, {0, 0, 100, 0, 5}};
        for (int k = 0; k < 4; k++) {
            for (int what = 0; what <= 4; what++) {
                due(numbers[k][what], x.instrument(k, what));
            }
        }
    }

    @Sentence("Promise 25: instrument: the number of the instrument, 0 to 3")
    static void setEnvelopeTakesInstrumentsFrom0To3() {
        PatternSequencer x = new PatternSequencer();
        x.setEnvelope(0, 1, 0, 0, 0);
        x.setEnvelope(3, 2, 0, 0, 0);
        due(1, x.instrument(0, 0));
        due(0, x.instrument(1, 0));
        due(2, x.instrument(3, 0));
    }

    @Sentence("Promise 25: attack: the attack")
    static void setEnvelopeTakesAttacksFrom0To5000() {
        PatternSequencer x = new PatternSequencer();
        x.setEnvelope(1, 5000, 1, 2, 3);
        due(5000, x.instrument(1, 0));
        x.setEnvelope(1, 0, 1, 2, 3);
        due(0, x.instrument(1, 0));
    }

    @Sentence("Promise 25: decay: the decay")
    static void setEnvelopeTakesDecaysFrom0To5000() {
        PatternSequencer x = new PatternSequencer();
        x.setEnvelope(1, 1, 5000, 2, 3);
        due(5000, x.instrument(1, 1));
        x.setEnvelope(1, 1, 0, 2, 3);
        due(0, x.instrument(1, 1));
    }

    @Sentence("Promise 25: sustain: the sustain")
    static void setEnvelopeTakesSustainsFrom0To100() {
        PatternSequencer x = new PatternSequencer();
        x.setEnvelope(1, 1, 2, 0, 3);
        due(0, x.instrument(1, 2));
        x.setEnvelope(1, 1, 2, 100, 3);
        due(100, x.instrument(1, 2));
    }

    @Sentence("Promise 25: release: the release")
    static void setEnvelopeTakesReleasesFrom0To5000() {
        PatternSequencer x = new PatternSequencer();
        x.setEnvelope(1, 1, 2, 3, 5000);
        due(5000, x.instrument(1, 3));
        x.setEnvelope(1, 1, 2, 3, 0);
        due(0, x.instrument(1, 3));
    }

    @Sentence("Promise 25: Returns the number of instruments that have the same envelope then, itself included")
    static void setEnvelopeReturnsFrom1To4() {
        PatternSequencer x = new PatternSequencer();
        due(4, x.setEnvelope(3, 0, 0, 100, 0));
        for (int k = 0; k < 4; k++) {
            due(k + 1, x.setEnvelope(k, 5000, 5000, 0, 5000));
        }
        due(4, x.setEnvelope(0, 5000, 5000, 0, 5000));
        due(1, x.setEnvelope(0, 0, 5000, 0, 5000));
        due(3, x.setEnvelope(1, 5000, 5000, 0, 5000));
        due(2, x.setEnvelope(3, 0, 5000, 0, 5000));
    }

    @Sentence("Promise 25: Throws IndexOutOfBoundsException if there is no such instrument")
    static void setEnvelopeOfNoInstrument() {
        refusedOutside(0, 3, INDEX, Checks::rich, (x, n) -> x.setEnvelope(n, 1, 1, 1, 1));
    }

    @Sentence("Promise 25: Throws IllegalArgumentException if a number is out of range")
    static void setEnvelopeWithNumbersOutOfRange() {
        refusedOutside(0, 5000, ARGUMENT, Checks::rich, (x, n) -> x.setEnvelope(0, n, 1, 1, 1));
        refusedOutside(0, 5000, ARGUMENT, Checks::rich, (x, n) -> x.setEnvelope(0, 1, n, 1, 1));
        refusedOutside(0, 100, ARGUMENT, Checks::rich, (x, n) -> x.setEnvelope(0, 1, 1, n, 1));
        refusedOutside(0, 5000, ARGUMENT, Checks::rich, (x, n) -> x.setEnvelope(0, 1, 1, 1, n));
    }

    // ---- promise 26: setPriority

    @Sentence("Promise 26: Sets the priority of an instrument")
    static void thePriorityOfOneInstrumentAloneIsSet() {
        PatternSequencer x = new PatternSequencer();
        x.setEnvelope(2, 1, 2, 3, 4);
        x.setPriority(2, 0);
        int[] priorities = {5, 5, 0, 5};
        for (int k = 0; k < 4; k++) {
            due(priorities[k], x.instrument(k, 4));
        }
        due(4, x.instrument(2, 3));
    }

    @Sentence("Promise 26: instrument: the number of the instrument, 0 to 3")
    static void setPriorityTakesInstrumentsFrom0To3() {
        PatternSequencer x = new PatternSequencer();
        x.setPriority(0, 1);
        x.setPriority(3, 2);
        due(1, x.instrument(0, 4));
        due(5, x.instrument(2, 4));
        due(2, x.instrument(3, 4));
    }

    @Sentence("Promise 26: priority: the priority")
    static void setPriorityTakesFrom0To9() {
        PatternSequencer x = withClips(2, 1);
        x.setPriority(0, 9);
        due(-1, x.note(1, 8));
        x.setPriority(0, 0);
        due(true, x.isCut(0));
    }

    @Sentence("Promise 26: Returns the previous priority")
    static void setPriorityReturnsThePreviousOne() {
        PatternSequencer x = new PatternSequencer();
        due(5, x.setPriority(3, 0));
        due(0, x.setPriority(3, 0));
        due(0, x.setPriority(3, 9));
        due(9, x.setPriority(3, 5));
        due(5, x.setPriority(0, 9));
    }

    @Sentence("Promise 26: Throws IndexOutOfBoundsException if there is no such instrument")
    static void setPriorityOfNoInstrument() {
        refusedOutside(0, 3, INDEX, Checks::rich, (x, n) -> x.setPriority(n, 1));
    }

    @Sentence("Promise 26: Throws IllegalArgumentException if priority is out of range")
    static void setPriorityOutOfRange() {
        refusedOutside(0, 9, ARGUMENT, Checks::rich, (x, n) -> x.setPriority(3, n));
    }

    // ---- promise 27: instrument

    @Sentence("Promise 27: instrument: the number of the instrument, 0 to 3")
    static void theFirstAndTheLastInstrument() {
        PatternSequencer x = withMostClips();
        x.setPriority(0, 0);
        x.setPriority(3, 9);
        due(0, x.instrument(0, 4));
        due(9, x.instrument(3, 4));
    }

    @Sentence("Promise 27: 5 for the number of clips that have it")
    static void theClipsOfAnInstrumentAreFrom0To12() {
        PatternSequencer x = new PatternSequencer();
        due(0, x.instrument(3, 5));
        for (int k = 1; k <= 12; k++) {
            x.addClip(0, 0, 1, 0, 3);
            due(k, x.instrument(3, 5));
        }
        due(0, x.instrument(0, 5));
        x.removeClip(5);
        due(11, x.instrument(3, 5));
        due(3, withMostClips().instrument(0, 5));
        due(3, withMostClips().instrument(3, 5));
    }

    @Sentence("Promise 27: Throws IndexOutOfBoundsException if there is no such instrument")
    static void instrumentOfNoNumber() {
        refusedOutside(0, 3, INDEX, Checks::rich, (x, n) -> x.instrument(n, 5));
    }

    @Sentence("Promise 27: Throws IllegalArgumentException if what is not 0 to 5")
    static void instrumentWithAnotherWhat() {
        refusedOutside(0, 5, ARGUMENT, Checks::rich, (x, n) -> x.instrument(0, n));
        refusedOutside(0, 5, ARGUMENT, Checks::rich, (x, n) -> x.instrument(3, n));
    }

    // ---- promise 28: setVoices

    @Sentence("Promise 28: Sets the number of voices")
    static void moreVoicesHoldMoreNotes() {
        PatternSequencer x = withClips(4, 1);
        due(3, x.count(3));
        due(1, x.polyphony());
        x.setVoices(4);
        due(0, x.count(3));
        due(4, x.polyphony());
        x.setVoices(3);
        due(1, x.count(3));
    }

    @Sentence("Promise 28: voices: the number, 1 to 8")
    static void setVoicesTakesFrom1To8() {
        PatternSequencer x = new PatternSequencer();
        x.setVoices(1);
        due(1, x.count(4));
        x.setVoices(8);
        due(8, x.count(4));
    }

    @Sentence("Promise 28: Returns the previous number")
    static void setVoicesReturnsThePreviousNumber() {
        PatternSequencer x = new PatternSequencer();
        due(4, x.setVoices(8));
        due(8, x.setVoices(8));
        due(8, x.setVoices(1));
        due(1, x.setVoices(4));
    }

    @Sentence("Promise 28: Throws IllegalArgumentException if voices is out of range")
    static void setVoicesOutOfRange() {
        refusedOutside(1, 8, ARGUMENT, Checks::rich, PatternSequencer::setVoices);
    }

    // ---- promise 29: setRule

    @Sentence("Promise 29: Sets the rule for stealing")
    static void eachRuleTakesAnotherVoice() {
        PatternSequencer x = withNotes(8);
        x.setVoices(3);
        x.addClip(0, 1, 1, 0, 0);
        x.addClip(1, 0, 1, 0, 1);
        x.addClip(2, 3, 1, 0, 2);
        x.addClip(3, 2, 1, 0, 3);
        x.setEnvelope(1, 0, 0, 99, 0);
        for (int rule = 0; rule <= 2; rule++) {
            x.setRule(rule);
            due(rule, x.note(3, 8));
            due(3, x.cutBy(rule));
        }
    }

    @Sentence("Promise 29: rule: the rule, 0 to 2")
    static void setRuleTakesFrom0To2() {
        PatternSequencer x = new PatternSequencer();
        x.setRule(2);
        due(2, x.count(7));
        x.setRule(0);
        due(0, x.count(7));
    }

    @Sentence("Promise 29: Returns the previous rule")
    static void setRuleReturnsThePreviousRule() {
        PatternSequencer x = new PatternSequencer();
        due(0, x.setRule(2));
        due(2, x.setRule(2));
        due(2, x.setRule(1));
        due(1, x.setRule(0));
    }

    @Sentence("Promise 29: Throws IllegalArgumentException if rule is out of range")
    static void setRuleOutOfRange() {
        refusedOutside(0, 2, ARGUMENT, Checks::rich, PatternSequencer::setRule);
    }

    // ---- promise 30: level

    @Sentence("Promise 30: note: the number of the note")
    static void levelsOfTheFirstAndTheLastOf300Notes() {
        PatternSequencer x = withMostNotes();
        due(100, x.level(0, 0));
        due(0, x.level(0, 100));
        due(0, x.level(299, 29899));
        due(100, x.level(299, 29900));
        due(0, x.level(299, 30000));
    }

    @Sentence("Promise 30: time: the time, 0 to 40000000")
    static void levelTakesTimesFrom0To40000000() {
        PatternSequencer x = withMostNotes();
        due(100, x.level(0, 0));
        due(0, x.level(0, LAST_TIME));
    }

    @Sentence("Promise 30: Returns the level, 0 to 100")
    static void levelsAreFrom0To100() {
        PatternSequencer x = withEnvelope(5, 5, 0, 5);
        for (int time = 95; time < 120; time++) {
            int level = x.level(0, time);
            due(true, level >= 0 && level <= 100);
        }
        due(80, x.level(0, 104));
        due(100, x.level(0, 105));
        due(0, x.level(0, 110));
    }

    @Sentence("Promise 30: Throws IndexOutOfBoundsException if there is no such note")
    static void levelOfNoNote() {
        refusedOutside(0, 8, INDEX, Checks::rich, (x, n) -> x.level(n, 0));
        refusedOutside(0, 299, INDEX, Checks::withMostNotes, (x, n) -> x.level(n, 0));
        refused(INDEX, PatternSequencer::new, x -> x.level(0, 0));
    }

    @Sentence("Promise 30: Throws IllegalArgumentException if time is out of range")
    static void levelAtATimeOutOfRange() {
        refusedOutside(0, LAST_TIME, ARGUMENT, Checks::rich, (x, n) -> x.level(0, n));
    }

    // ---- promise 31: mix

    @Sentence("Promise 31: Returns the sum of the loudness of all notes at a time")
    static void theMixOfNoNotesAndOfTheLoudest() {
        PatternSequencer x = new PatternSequencer();
        due(0, x.mix(0));
        x.addNote(0, 1, 4, 9);
        x.setVoices(8);
        for (int k = 1; k <= 9; k++) {
            x.addClip(0, 0, 1, k, 0);
            due(900 * Math.min(8, k), x.mix(0));
        }
        due(7200, x.mix(399));
        due(0, x.mix(400));
        due(0, x.mix(LAST_TIME));
    }

    @Sentence("Promise 31: the sum of the loudness")
    static void theMixLeavesOutWhatIsDroppedOrCut() {
        PatternSequencer x = withClips(2, 1);
        due(100, x.mix(99));
        due(200, x.mix(100));
        x.setPriority(1, 4);
        due(100, x.mix(100));
        due(0, x.mix(400));
    }

    @Sentence("Promise 31: time: the time, 0 to 40000000")
    static void mixTakesTimesFrom0To40000000() {
        PatternSequencer x = withClips(1, 1);
        due(100, x.mix(0));
        due(0, x.mix(LAST_TIME));
    }

    @Sentence("Promise 31: Throws IllegalArgumentException if time is out of range")
    static void mixAtATimeOutOfRange() {
        refusedOutside(0, LAST_TIME, ARGUMENT, Checks::rich, PatternSequencer::mix);
        refusedOutside(0, LAST_TIME, ARGUMENT, PatternSequencer::new, PatternSequencer::mix);
    }

    // ---- promise 32: sounding

    @Sentence("Promise 32: Returns the voices whose notes sound at a time")
    static void noVoiceAndAllVoicesSound() {
        PatternSequencer x = new PatternSequencer();
        due(0, x.sounding(0));
        x.addNote(0, 1, 4, 9);
        x.setVoices(8);
        for (int k = 0; k < 8; k++) {
            x.addClip(k, 0, 1, 0, 0);
        }
        // from tick 4 on the voices 0 to 3 are free again
        int[] sets = {1, 3, 7, 15, 15, 15, 15, 15, 14, 12, 8, 0};
        for (int tick = 0; tick < sets.length; tick++) {
            due(sets[tick], x.sounding(100 * tick));
        }
        x.setEnvelope(0, 0, 0, 0, 5000);
        due(255, x.sounding(700));
        due(255, x.sounding(5399));
        due(254, x.sounding(5400));
    }

    @Sentence("Promise 32: time: the time, 0 to 40000000")
    static void soundingTakesTimesFrom0To40000000() {
        PatternSequencer x = withClips(1, 1);
        due(1, x.sounding(0));
        due(0, x.sounding(LAST_TIME));
    }

    @Sentence("Promise 32: Throws IllegalArgumentException if time is out of range")
    static void soundingAtATimeOutOfRange() {
        refusedOutside(0, LAST_TIME, ARGUMENT, Checks::rich, PatternSequencer::sounding);
    }

    // ---- promise 33: noteOn

    @Sentence("Promise 33: Returns the note that sounds with a voice at a time")
    static void theNoteOfAVoiceJustBeforeAndAtAChange() {
        PatternSequencer x = withClips(3, 2);
        due(0, x.noteOn(0, 0));
        due(0, x.noteOn(0, 199));
        due(2, x.noteOn(0, 200));
        due(2, x.noteOn(0, 599));
        due(1, x.noteOn(1, 100));
        due(1, x.noteOn(1, 499));
    }

    @Sentence("Promise 33: voice: the number of the voice")
    static void noteOnOfTheFirstAndTheLastVoice() {
        PatternSequencer x = new PatternSequencer();
        x.addNote(0, 1, 4, 9);
        x.setVoices(8);
        for (int k = 0; k < 8; k++) {
            x.addClip(0, 0, 1, k, 0);
        }
        due(0, x.noteOn(0, 0));
        due(7, x.noteOn(7, 0));
    }

    @Sentence("Promise 33: time: the time, 0 to 40000000")
    static void noteOnTakesTimesFrom0To40000000() {
        PatternSequencer x = withClips(1, 1);
        due(0, x.noteOn(0, 0));
        thrown(MISSING, x, y -> y.noteOn(0, LAST_TIME));
    }

    @Sentence("Promise 33: Throws IndexOutOfBoundsException if there is no such voice")
    static void noteOnOfNoVoice() {
        refusedOutside(0, 1, INDEX, Checks::rich, (x, n) -> x.noteOn(n, 300));
        refusedOutside(0, 3, INDEX, PatternSequencer::new, (x, n) -> x.noteOn(n, 0));
        PatternSequencer x = withClips(2, 8);
        thrown(MISSING, x, y -> y.noteOn(7, 0));
        thrown(INDEX, x, y -> y.noteOn(8, 0));
        x.setVoices(1);
        thrown(INDEX, x, y -> y.noteOn(1, 100));
    }

    @Sentence("Promise 33: Throws IllegalArgumentException if time is out of range")
    static void noteOnAtATimeOutOfRange() {
        refusedOutside(0, LAST_TIME, ARGUMENT, Checks::rich, (x, n) -> x.noteOn(1, n));
    }

    @Sentence("Promise 33: Throws NoSuchElementException if the voice has no note that sounds then")
    static void noteOnOfASilentVoice() {
        refused(MISSING, Checks::rich, x -> x.noteOn(0, 0));
        refused(MISSING, PatternSequencer::new, x -> x.noteOn(0, 0));
        PatternSequencer x = withClips(2, 2);
        thrown(MISSING, x, y -> y.noteOn(1, 99));
        due(1, x.noteOn(1, 100));
        due(0, x.noteOn(0, 399));
        thrown(MISSING, x, y -> y.noteOn(0, 400));
        x.setVoices(1);
        x.setPriority(1, 4);
        // the second note is dropped, and is not the note of any voice
        thrown(MISSING, x, y -> y.noteOn(0, 400));
    }

    // ---- promise 34: polyphony

    @Sentence("Promise 34: Returns the greatest number of notes that sound at the same time")
    static void thePolyphonyIsFrom0To8() {
        PatternSequencer x = new PatternSequencer();
        due(0, x.polyphony());
        x.addClip(0, 0, 1, 0, 0);
        due(0, x.polyphony());
        x.addNote(0, 1, 4, 9);
        due(1, x.polyphony());
        x.setVoices(8);
        for (int k = 2; k <= 12; k++) {
            x.addClip(0, 0, 1, k, 0);
            due(Math.min(8, k), x.polyphony());
        }
        x.setVoices(1);
        due(1, x.polyphony());
    }

    @Sentence("Promise 34: that sound at the same time")
    static void notesThatFollowOneAnotherDoNotSoundAtTheSameTime() {
        PatternSequencer x = withNotes(4);
        x.addClip(0, 0, 2, 0, 0);
        x.addClip(8, 1, 1, 0, 1);
        due(1, x.polyphony());
        x.setEnvelope(0, 0, 0, 100, 1);
        due(2, x.polyphony());
        x.setVoices(1);
        due(1, x.polyphony());
    }

    // ---- promise 35: busy

    @Sentence("Promise 35: Returns how many milliseconds a voice sounds altogether")
    static void aVoiceIsBusyFrom0On() {
        PatternSequencer x = new PatternSequencer();
        due(0, x.busy(0));
        x.addNote(0, 1, 1, 1);
        x.setTempo(0, 1);
        x.addClip(0, 0, 1, 0, 0);
        due(1, x.busy(0));
        due(0, x.busy(1));
        x.setEnvelope(0, 0, 0, 0, 5000);
        due(5001, x.busy(0));
        x.addClip(3, 0, 1, 0, 0);
        x.setVoices(1);
        due(5004, x.busy(0));
        x.setEnvelope(0, 0, 0, 0, 0);
        due(2, x.busy(0));
    }

    @Sentence("Promise 35: how many milliseconds a voice sounds")
    static void theBusiestVoiceOfAll() {
        PatternSequencer x = new PatternSequencer();
        for (int k = 0; k < 5; k++) {
            x.addNote(0, 1, 16, 1);
        }
        x.addCall(1, 0, 5);
        x.addClip(9999, 1, 9, 0, 0);
        x.setTempo(0, 1000);
        x.setVoices(1);
        due(225, x.count(1));
        due(225 * 16 * 1000, x.busy(0));
        x.setEnvelope(0, 0, 0, 100, 5000);
        due(225 * 16 * 1000 + 5000, x.busy(0));
    }

    @Sentence("Promise 35: voice: the number of the voice")
    static void busyOfTheFirstAndTheLastVoice() {
        PatternSequencer x = withClips(4, 4);
        for (int voice = 0; voice < 4; voice++) {
            due(400, x.busy(voice));
        }
        x.setVoices(8);
        due(400, x.busy(3));
        due(0, x.busy(7));
    }

    @Sentence("Promise 35: Throws IndexOutOfBoundsException if there is no such voice")
    static void busyOfNoVoice() {
        refusedOutside(0, 1, INDEX, Checks::rich, PatternSequencer::busy);
        refusedOutside(0, 3, INDEX, PatternSequencer::new, PatternSequencer::busy);
        refusedOutside(0, 0, INDEX, () -> withClips(3, 1), PatternSequencer::busy);
        refusedOutside(0, 7, INDEX, () -> withClips(3, 8), PatternSequencer::busy);
    }

    // ---- promise 36: lostShare

    @Sentence("Promise 36: Returns the share of notes that are dropped or cut")
    static void theShareIsFrom0ToAlmost1() {
        PatternSequencer x = withMostNotes();
        due(0.0, x.lostShare());
        x.setVoices(1);
        x.setEnvelope(0, 0, 0, 100, 1);
        due(299.0 / 300.0, x.lostShare());
        PatternSequencer y = withClips(1, 1);
        due(0.0, y.lostShare());
    }

    @Sentence("Promise 36: their number divided by the number of all notes, both converted to double")
    static void droppedAndCutNotesBothCount() {
        PatternSequencer x = withClips(3, 1);
        due(2.0 / 3.0, x.lostShare());
        x.setPriority(1, 4);
        // note 1 is dropped, and note 2 cuts note 0
        due(1, x.count(2));
        due(1, x.count(3));
        due(2.0 / 3.0, x.lostShare());
        x.setPriority(0, 6);
        due(2.0 / 3.0, x.lostShare());
        x.setVoices(2);
        due(1.0 / 3.0, x.lostShare());
    }

    @Sentence("Promise 36: Throws ArithmeticException if there are no notes")
    static void theShareOfNoNotes() {
        refused(ARITHMETIC, PatternSequencer::new, PatternSequencer::lostShare);
        refused(ARITHMETIC, Checks::withLongestClip, PatternSequencer::lostShare);
        refused(ARITHMETIC, () -> withNotes(1), PatternSequencer::lostShare);
    }

    // ---- promise 37: eventCount

    @Sentence("Promise 37: Returns the number of events")
    static void theEventsAreFrom0To600() {
        due(0, new PatternSequencer().eventCount());
        due(0, withLongestClip().eventCount());
        due(600, withMostNotes().eventCount());
        PatternSequencer x = withMostNotes();
        x.setVoices(1);
        x.setEnvelope(0, 0, 0, 100, 5000);
        due(600, x.eventCount());
    }

    // ---- promise 38: event

    @Sentence("Promise 38: index: the index in the order of the events, from 0")
    static void theFirstAndTheLastOf600Events() {
        PatternSequencer x = withMostNotes();
        int[][] events = {{0, 1, 0, 0}, {30000, 0, 299, 0}};
        for (int what = 0; what <= 3; what++) {
            due(events[0][what], x.event(0, what));
            due(events[1][what], x.event(599, what));
        }
    }

    /** 300 notes, each a tick behind the one before; each sounds for 450 milliseconds. */
    private static PatternSequencer withNotesThatOverlap() {
        PatternSequencer x = withMostNotes();
        x.setVoices(8);
        x.setEnvelope(0, 0, 0, 100, 350);
        return x;
    }

    @Sentence("Promise 38: the index in the order of the events")
    static void sixHundredEventsThatOverlap() {
        // five notes begin, then one stops and one begins by turns, and the last five stop
        for (int from = 0; from < 600; from += 150) {
            PatternSequencer x = withNotesThatOverlap();
            for (int k = from; k < from + 150; k++) {
                boolean isStop = k >= 595 || k >= 5 && k % 2 == 1;
                int note = k < 5 ? k : k >= 595 ? k - 300 : isStop ? (k - 5) / 2 : (k - 6) / 2 + 5;
                due(100 * note + (isStop ? 450 : 0), x.event(k, 0));
                due(isStop ? 0 : 1, x.event(k, 1));
                due(note, x.event(k, 2));
            }
        }
        due(5, withNotesThatOverlap().polyphony());
    }

    @Sentence("Promise 38: 1 for its kind, 0 a note stops, 1 a note begins")
    static void theTwoEventsOfANote() {
        PatternSequencer x = withClips(1, 1);
        due(1, x.event(0, 1));
        due(0, x.event(1, 1));
        due(0, x.event(0, 0));
        due(400, x.event(1, 0));
    }

    @Sentence("Promise 38: 2 for the note, 3 for the voice")
    static void theNotesAndTheVoicesOfEvents() {
        PatternSequencer x = new PatternSequencer();
        x.addNote(0, 50, 4, 9);
        x.setVoices(8);
        for (int k = 0; k < 8; k++) {
            x.addClip(0, 0, 1, -k, 0);
        }
        for (int k = 0; k < 16; k++) {
            due(k % 8, x.event(k, 2));
            due(7 - k % 8, x.event(k, 3));
        }
    }

    @Sentence("Promise 38: Throws IndexOutOfBoundsException if there is no such event")
    static void eventOfNoIndex() {
        refusedOutside(0, 17, INDEX, Checks::rich, (x, n) -> x.event(n, 0));
        refusedOutside(0, 599, INDEX, Checks::withMostNotes, (x, n) -> x.event(n, 3));
        refused(INDEX, PatternSequencer::new, x -> x.event(0, 0));
        PatternSequencer x = withClips(2, 1);
        x.setPriority(1, 4);
        due(400, x.event(1, 0));
        thrown(INDEX, x, y -> y.event(2, 0));
    }

    @Sentence("Promise 38: Throws IllegalArgumentException if what is not 0 to 3")
    static void eventWithAnotherWhat() {
        refusedOutside(0, 3, ARGUMENT, Checks::rich, (x, n) -> x.event(0, n));
        refusedOutside(0, 3, ARGUMENT, Checks::withMostNotes, (x, n) -> x.event(599, n));
    }

    // ---- promise 39: eventFrom

    @Sentence("Promise 39: Returns the first event at a time or later")
    static void theFirstOfSeveralEventsOfOneTime() {
        PatternSequencer x = withNotes(4);
        x.addClip(1, 0, 1, 0, 0);
        x.addClip(1, 1, 1, 0, 0);
        x.addClip(5, 2, 1, 0, 0);
        // begin 0 and 1 at 100, stop 0 and 1 at 500, begin 2 at 500, stop 2 at 900
        due(0, x.eventFrom(0));
        due(0, x.eventFrom(100));
        due(2, x.eventFrom(101));
        due(2, x.eventFrom(500));
        due(5, x.eventFrom(501));
        due(5, x.eventFrom(900));
        thrown(MISSING, x, y -> y.eventFrom(901));
    }

    @Sentence("Promise 39: the first event at a time or later")
    static void theFirstEventOf600() {
        PatternSequencer x = withNotesThatOverlap();
        due(5, x.eventFrom(401));
        due(5, x.eventFrom(450));
        due(6, x.eventFrom(451));
        due(593, x.eventFrom(29801));
        due(594, x.eventFrom(29851));
        due(595, x.eventFrom(29901));
        due(599, x.eventFrom(30350));
        thrown(MISSING, x, y -> y.eventFrom(30351));
    }

    @Sentence("Promise 39: time: the time, 0 to 40000000")
    static void eventFromTakesTimesFrom0To40000000() {
        PatternSequencer x = withClips(1, 1);
        due(0, x.eventFrom(0));
        thrown(MISSING, x, y -> y.eventFrom(LAST_TIME));
    }

    @Sentence("Promise 39: Throws IllegalArgumentException if time is out of range")
    static void eventFromATimeOutOfRange() {
        refusedOutside(0, LAST_TIME, ARGUMENT, Checks::rich, PatternSequencer::eventFrom);
        refusedOutside(0, LAST_TIME, ARGUMENT, PatternSequencer::new, PatternSequencer::eventFrom);
    }

    @Sentence("Promise 39: Throws NoSuchElementException if there is none")
    static void eventFromATimeBehindAll() {
        refused(MISSING, PatternSequencer::new, x -> x.eventFrom(0));
        refused(MISSING, Checks::rich, x -> x.eventFrom(LAST_TIME));
        PatternSequencer x = withMostNotes();
        due(599, x.eventFrom(30000));
        thrown(MISSING, x, y -> y.eventFrom(30001));
    }

    public static void main(String[] arguments) throws Exception {
        run(SoundSentencesTest.class);
    }
}

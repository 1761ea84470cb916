/** The description's sentences on levels, voices and events: what is so at their edges. */
public final class SoundDescriptionTest extends Checks {

    // ---- levels

    @Sentence("Levels: from the time of its beginning on")
    static void aNoteSoundsFromItsBeginningOn() {
        PatternSequencer x = withEnvelope(0, 0, 100, 0);
        due(0, x.sounding(99));
        due(1, x.sounding(100));
        thrown(MISSING, x, y -> y.noteOn(0, 99));
        due(0, x.noteOn(0, 100));
    }

    @Sentence("Levels: until the time of its end plus the release of its instrument, not included")
    static void aNoteSoundsUntilItsEndPlusTheRelease() {
        for (int release : new int[] {0, 1, 5000}) {
            PatternSequencer x = withEnvelope(0, 0, 100, release);
            due(1100 + release, x.note(0, 7));
            due(1, x.sounding(1099 + release));
            due(0, x.sounding(1100 + release));
        }
    }

    @Sentence("Levels: or until it is cut")
    static void aNoteThatIsCutSoundsUntilThen() {
        PatternSequencer x = withClips(2, 1);
        x.setEnvelope(0, 0, 0, 100, 5000);
        due(100, x.note(0, 7));
        due(0, x.noteOn(0, 99));
        due(1, x.noteOn(0, 100));
        due(100, x.level(0, 99));
        due(0, x.level(0, 100));
    }

    @Sentence("Levels: if that is earlier")
    static void aNoteInItsReleaseIsCutToo() {
        PatternSequencer x = withNotes(1);
        x.setVoices(1);
        x.setEnvelope(0, 0, 0, 100, 100);
        x.addClip(0, 0, 1, 0, 0);
        x.addClip(1, 0, 1, 0, 1);
        due(true, x.isCut(0));
        due(100, x.note(0, 7));
        x.moveClip(1, 2);
        due(false, x.isCut(0));
        due(200, x.note(0, 7));
    }

    @Sentence("Levels: while d is less than the attack, 100 times d divided by the attack")
    static void theLevelRisesWhileDIsLessThanTheAttack() {
        PatternSequencer x = withEnvelope(200, 0, 30, 0);
        due(0, x.level(0, 100));
        due(50, x.level(0, 200));
        due(99, x.level(0, 299));
        due(30, x.level(0, 300));
    }

    @Sentence("Levels: while d is less than the attack, 100")
    static void withoutAttackTheLevelBeginsAt100() {
        PatternSequencer x = withEnvelope(0, 50, 0, 0);
        due(0, x.level(0, 99));
        due(100, x.level(0, 100));
        due(98, x.level(0, 101));
    }

    @Sentence("Levels: then, while d is less than the attack plus the decay")
    static void theLevelDecaysWhileDIsLessThanAttackPlusDecay() {
        PatternSequencer x = withEnvelope(200, 100, 40, 0);
        due(100, x.level(0, 300));
        due(70, x.level(0, 350));
        due(41, x.level(0, 399));
        due(40, x.level(0, 400));
        due(40, x.level(0, 1099));
    }

    @Sentence("Levels: while d is less than the attack plus the decay")
    static void anAttackAndADecayOfOneMillisecond() {
        PatternSequencer x = withEnvelope(0, 1, 50, 0);
        due(100, x.level(0, 100));
        due(50, x.level(0, 101));
        PatternSequencer y = withEnvelope(1, 0, 50, 0);
        due(0, y.level(0, 100));
        due(50, y.level(0, 101));
        PatternSequencer z = withEnvelope(1, 1, 50, 1);
        due(0, z.level(0, 100));
        due(100, z.level(0, 101));
        due(50, z.level(0, 102));
        due(50, z.level(0, 1100));
        due(0, z.level(0, 1101));
    }

    @Sentence("Levels: and then the sustain")
    static void withoutAttackAndDecayTheLevelIsTheSustain() {
        for (int sustain : new int[] {0, 1, 99, 100}) {
            PatternSequencer x = withEnvelope(0, 0, sustain, 0);
            due(sustain, x.level(0, 100));
            due(sustain, x.level(0, 1099));
            due(0, x.level(0, 1100));
        }
    }

    @Sentence("Levels: the quotient of 100 minus the sustain")
    static void aDecayToASustainOf100AndTo0() {
        PatternSequencer even = withEnvelope(0, 1000, 100, 0);
        due(100, even.level(0, 100));
        due(100, even.level(0, 1099));
        PatternSequencer silent = withEnvelope(1, 4, 0, 0);
        int[] levels = {0, 100, 75, 50, 25, 0, 0};
        for (int d = 0; d < levels.length; d++) {
            due(levels[d], silent.level(0, 100 + d));
        }
        due(1, silent.sounding(1099));
    }

    @Sentence("Levels: The level at a time before its end")
    static void theLevelJustBeforeTheEnd() {
        PatternSequencer x = withEnvelope(1000, 0, 7, 50);
        due(99, x.level(0, 1099));
        PatternSequencer y = withEnvelope(999, 0, 7, 50);
        due(99, y.level(0, 1098));
        due(7, y.level(0, 1099));
    }

    @Sentence("Levels: the level at which it was held until its end")
    static void theLevelAtTheEndIsThatOfTheWholeLength() {
        PatternSequencer x = withEnvelope(1000, 0, 60, 50);
        due(60, x.level(0, 1100));
        PatternSequencer y = withEnvelope(1001, 0, 60, 50);
        due(99, y.level(0, 1100));
    }

    @Sentence("Levels: times the release minus r, divided by the release")
    static void theLevelsOfTheReleaseFromItsFirstToItsLastMillisecond() {
        PatternSequencer x = withEnvelope(0, 0, 80, 4);
        int[] levels = {80, 80, 60, 40, 20, 0, 0};
        for (int k = 0; k < levels.length; k++) {
            due(levels[k], x.level(0, 1099 + k));
        }
        PatternSequencer longest = withEnvelope(0, 0, 100, 5000);
        due(100, longest.level(0, 1100));
        due(99, longest.level(0, 1101));
        due(50, longest.level(0, 3600));
        due(1, longest.level(0, 6050));
        due(0, longest.level(0, 6051));
        due(1, longest.sounding(6099));
        due(0, longest.sounding(6100));
    }

    @Sentence("Levels: At a later time, r milliseconds after its end")
    static void theReleaseOfANoteThatEndsInItsAttack() {
        PatternSequencer x = withEnvelope(5000, 5000, 100, 100);
        due(19, x.level(0, 1099));
        due(20, x.level(0, 1100));
        due(10, x.level(0, 1150));
        due(0, x.level(0, 1199));
        due(1, x.sounding(1199));
    }

    @Sentence("Levels: All quotients are rounded down")
    static void quotientsAreRoundedDown() {
        PatternSequencer rising = withEnvelope(300, 0, 100, 0);
        int[] levels = {0, 0, 0, 1, 1, 1, 2};
        for (int d = 0; d < levels.length; d++) {
            due(levels[d], rising.level(0, 100 + d));
        }
        due(99, rising.level(0, 399));
        PatternSequencer falling = withEnvelope(0, 300, 0, 0);
        int[] lower = {100, 100, 100, 99, 99, 99, 98};
        for (int d = 0; d < lower.length; d++) {
            due(lower[d], falling.level(0, 100 + d));
        }
        due(1, falling.level(0, 399));
        PatternSequencer ending = withEnvelope(0, 0, 100, 3);
        due(66, ending.level(0, 1101));
        due(33, ending.level(0, 1102));
    }

    @Sentence("Levels: At a time at which the note does not sound")
    static void theLevelIs0BeforeAndAfter() {
        PatternSequencer x = withEnvelope(0, 0, 100, 0);
        for (int time : new int[] {0, 99, 1100, 1101, LAST_TIME}) {
            due(0, x.level(0, time));
        }
    }

    @Sentence("Levels: the level is 0")
    static void theLevelOfADroppedNoteIs0() {
        PatternSequencer x = withClips(2, 1);
        x.setPriority(1, 4);
        for (int time : new int[] {0, 99, 100, 101, 399, 400, 500, LAST_TIME}) {
            due(0, x.level(1, time));
        }
    }

    @Sentence("Levels: The loudness is the level times the velocity")
    static void theLoudnessOfTheLeastAndTheGreatestVelocity() {
        for (int velocity : new int[] {1, 9}) {
            PatternSequencer x = new PatternSequencer();
            x.addNote(0, 1, 1, velocity);
            x.addClip(0, 0, 1, 0, 0);
            due(100 * velocity, x.mix(0));
            x.setEnvelope(0, 0, 0, 1, 0);
            due(velocity, x.mix(0));
            x.setEnvelope(0, 0, 0, 0, 0);
            due(0, x.mix(0));
        }
    }

    // ---- voices

    @Sentence("Voices: There are 1 to 8 voices, at first 4")
    static void thereAre1To8Voices() {
        PatternSequencer x = new PatternSequencer();
        due(4, x.count(4));
        due(0, x.busy(0));
        due(0, x.busy(3));
        thrown(INDEX, x, y -> y.busy(4));
        x.setVoices(8);
        due(0, x.busy(7));
        thrown(INDEX, x, y -> y.busy(8));
        x.setVoices(1);
        due(0, x.busy(0));
        thrown(INDEX, x, y -> y.busy(1));
        refusedOutside(1, 8, ARGUMENT, Checks::rich, PatternSequencer::setVoices);
    }

    @Sentence("Voices: 1 to 8 voices")
    static void allVoicesAreUsed() {
        PatternSequencer x = new PatternSequencer();
        x.addNote(0, 1, 4, 1);
        for (int k = 0; k < 10; k++) {
            x.addClip(0, 0, 1, k, 0);
        }
        int[] sets = {0, 1, 3, 7, 15, 31, 63, 127, 255};
        for (int voices = 1; voices <= 8; voices++) {
            x.setVoices(voices);
            due(sets[voices], x.sounding(0));
            due(voices, x.polyphony());
            due(10 - voices, x.count(3));
        }
    }

    @Sentence("Voices: in ascending order of the times at which they begin")
    static void theEarlierNoteIsGivenAVoiceFirst() {
        PatternSequencer x = withNotes(2);
        x.addClip(1, 0, 1, 0, 3);
        x.addClip(0, 3, 1, 0, 0);
        x.setPriority(3, 9);
        due(0, x.note(0, 8));
        due(1, x.note(1, 8));
    }

    @Sentence("Voices: in ascending order of the times")
    static void aNoteThatIsOneMillisecondEarlierIsGivenAVoiceFirst() {
        for (int tick = 0; tick < 20; tick++) {
            PatternSequencer x = withNotes(8);
            x.setTempo(0, 1);
            x.addClip(tick + 1, 0, 1, -10, 3);
            x.addClip(tick, 3, 1, 50, 0);
            x.setPriority(3, 9);
            x.setPriority(0, 0);
            due(0, x.note(0, 8));
            due(1, x.note(1, 8));
        }
    }

    @Sentence("Voices: those of instruments with higher priority come first")
    static void atOneTimeTheHigherPriorityComesFirst() {
        PatternSequencer x = withNotes(2);
        x.addClip(0, 0, 1, 0, 0);
        x.addClip(0, 3, 1, 0, 3);
        x.setPriority(3, 6);
        due(1, x.note(0, 8));
        due(0, x.note(1, 8));
        x.setPriority(3, 4);
        due(0, x.note(0, 8));
        due(1, x.note(1, 8));
        x.setPriority(0, 0);
        x.setPriority(3, 9);
        due(1, x.note(0, 8));
        due(0, x.note(1, 8));
    }

    @Sentence("Voices: of several at the same time, those of instruments with higher priority")
    static void eachPriorityComesBeforeTheNextLowerOne() {
        for (int priority = 0; priority < 9; priority++) {
            PatternSequencer x = new PatternSequencer();
            x.addNote(0, 0, 2, 1);
            x.addNote(1, 99, 2, 1);
            x.addClip(0, 0, 1, 0, 0);
            x.addClip(0, 1, 1, 0, 1);
            x.setPriority(0, priority);
            x.setPriority(1, priority + 1);
            due(1, x.note(0, 8));
            due(0, x.note(1, 8));
        }
    }

    @Sentence("Voices: of these those with lower pitch")
    static void atOneTimeAndPriorityTheLowerPitchComesFirst() {
        PatternSequencer x = new PatternSequencer();
        x.addNote(0, 51, 1, 1);
        x.addNote(1, 50, 1, 1);
        x.addClip(0, 0, 1, 0, 0);
        x.addClip(0, 1, 1, 0, 1);
        due(1, x.note(0, 8));
        due(0, x.note(1, 8));
        x.addClip(0, 1, 1, -50, 2);
        due(0, x.note(2, 8));
        due(2, x.note(0, 8));
    }

    @Sentence("Voices: those with lower pitch")
    static void eachPitchComesBeforeTheNextHigherOne() {
        for (int pitch = 0; pitch < 99; pitch++) {
            PatternSequencer x = new PatternSequencer();
            x.addNote(0, pitch + 1, 1, 1);
            x.addNote(1, pitch, 1, 1);
            x.addClip(0, 0, 1, 0, 0);
            x.addClip(0, 1, 1, 0, 0);
            for (int priority = 0; priority <= 9; priority++) {
                x.setPriority(0, priority);
                due(1, x.note(0, 8));
                due(0, x.note(1, 8));
            }
        }
    }

    @Sentence("Voices: of these those with lower numbers")
    static void atOneTimePriorityAndPitchTheLowerNumberComesFirst() {
        PatternSequencer x = new PatternSequencer();
        x.addNote(0, 95, 1, 1);
        x.addNote(1, 99, 1, 1);
        x.addClip(0, 0, 1, 10, 0);
        x.addClip(0, 1, 1, 0, 1);
        // both pitches are 99, as no pitch is higher
        due(0, x.note(0, 8));
        due(1, x.note(1, 8));
    }

    @Sentence("Voices: free if it had no note so far")
    static void aVoiceWithoutANoteIsFree() {
        PatternSequencer x = withClips(4, 4);
        for (int note = 0; note < 4; note++) {
            due(note, x.note(note, 8));
        }
        due(0, x.count(3));
    }

    @Sentence("Voices: or its note does not sound any more at this time")
    static void aVoiceIsFreeAtTheTimeAtWhichItsNoteStops() {
        PatternSequencer x = withNotes(4);
        x.setVoices(1);
        x.addClip(0, 0, 1, 0, 0);
        x.addClip(4, 0, 1, 0, 1);
        x.setPriority(1, 0);
        due(0, x.count(2) + x.count(3));
        due(0, x.note(1, 8));
        x.setEnvelope(0, 0, 0, 100, 1);
        due(1, x.count(2));
        x.moveClip(1, 5);
        due(0, x.count(2));
        x.setEnvelope(0, 0, 0, 100, 100);
        due(0, x.count(2));
        x.setEnvelope(0, 0, 0, 100, 101);
        due(1, x.count(2));
    }

    @Sentence("Voices: does not sound any more")
    static void aVoiceIsNotFreeWhileItsNoteSoundsWithLevel0() {
        PatternSequencer x = withNotes(4);
        x.setVoices(1);
        x.setEnvelope(0, 0, 0, 0, 0);
        x.addClip(0, 0, 1, 0, 0);
        x.addClip(3, 0, 1, 0, 1);
        due(true, x.isCut(0));
    }

    @Sentence("Voices: The note gets the free voice with the lowest number")
    static void ofTwoFreeVoicesTheLowerOneIsTaken() {
        PatternSequencer x = withNotes(4);
        x.addClip(0, 0, 1, 0, 0);
        x.addClip(1, 0, 1, 0, 0);
        x.addClip(2, 0, 1, 0, 0);
        x.addClip(6, 0, 1, 0, 0);
        due(2, x.note(2, 8));
        due(0, x.note(3, 8));
        x.moveClip(3, 4);
        due(0, x.note(3, 8));
        x.moveClip(3, 3);
        due(3, x.note(3, 8));
    }

    @Sentence("Voices: a priority that is not higher than that of the new note")
    static void anEqualPriorityIsConsideredAndAHigherOneIsNot() {
        PatternSequencer x = withClips(2, 1);
        due(true, x.isCut(0));
        x.setPriority(0, 6);
        due(false, x.isCut(0));
        due(1, x.count(2));
        x.setPriority(1, 6);
        due(true, x.isCut(0));
        x.setPriority(1, 9);
        due(true, x.isCut(0));
        x.setPriority(0, 9);
        due(true, x.isCut(0));
        x.setPriority(1, 8);
        due(false, x.isCut(0));
        x.setPriority(0, 0);
        x.setPriority(1, 0);
        due(true, x.isCut(0));
    }

    @Sentence("Voices: If no voice is free, the voices are considered")
    static void onlyTheVoicesThatAreConsideredAreTaken() {
        PatternSequencer x = withClips(3, 2);
        x.setPriority(0, 6);
        due(false, x.isCut(0));
        due(2, x.cutBy(1));
        due(1, x.note(2, 8));
    }

    @Sentence("Voices: the note is dropped: it never sounds and has no voice")
    static void aDroppedNote() {
        PatternSequencer x = withClips(3, 2);
        x.setPriority(0, 6);
        x.setPriority(1, 6);
        due(1, x.count(2));
        due(-1, x.note(2, 7));
        due(-1, x.note(2, 8));
        due(0, x.level(2, 200));
        due(3, x.sounding(200));
        due(0, x.sounding(500));
        due(2, x.polyphony());
        due(4, x.eventCount());
        due(false, x.isCut(2));
        thrown(MISSING, x, y -> y.cutBy(2));
    }

    @Sentence("Voices: the voice whose note began earliest (rule 0, as at first)")
    static void rule0TakesTheNoteThatBeganEarliest() {
        due(0, new PatternSequencer().count(7));
        PatternSequencer x = threeForTwo(0);
        due(2, x.cutBy(0));
        due(0, x.note(2, 8));
        x.addClip(3, 0, 1, 0, 2);
        due(3, x.cutBy(1));
        due(1, x.note(3, 8));
    }

    @Sentence("Voices: whose note has the least level at this time (1)")
    static void rule1TakesTheNoteWithTheLeastLevelThen() {
        PatternSequencer x = threeForTwo(1);
        x.setEnvelope(1, 1000, 0, 100, 0);
        x.setEnvelope(0, 0, 0, 11, 0);
        due(2, x.cutBy(1));
        x.setEnvelope(0, 0, 0, 9, 0);
        due(2, x.cutBy(0));
    }

    @Sentence("Voices: the least level at this time")
    static void rule1LooksAtTheReleaseToo() {
        PatternSequencer x = new PatternSequencer();
        x.addNote(0, 50, 2, 1);
        x.addNote(1, 50, 1, 1);
        x.setVoices(2);
        x.setRule(1);
        x.setEnvelope(0, 0, 0, 90, 1000);
        x.setEnvelope(1, 0, 0, 100, 1000);
        x.addClip(0, 0, 1, 0, 0);
        x.addClip(0, 1, 1, 0, 1);
        x.addClip(2, 0, 1, 0, 2);
        // at 200 note 0 has 90 at its end, and note 1, which ended at 100, has 100 * 900 / 1000
        due(2, x.cutBy(0));
        x.setEnvelope(1, 0, 0, 100, 999);
        due(2, x.cutBy(1));
    }

    @Sentence("Voices: whose note has the highest pitch (2)")
    static void rule2TakesTheNoteWithTheHighestPitch() {
        PatternSequencer x = threeForTwo(2);
        due(2, x.cutBy(1));
        x.removeClip(0);
        x.addClip(0, 1, 1, 11, 0);
        // clips are now: pattern 2 at 1, pattern 0 at 2, pattern 1 with 11 more, pitch 31, at 0
        due(2, x.cutBy(0));
    }

    @Sentence("Voices: of several, the one with the lowest number")
    static void ofSeveralTheVoiceWithTheLowestNumberIsTaken() {
        for (int rule = 0; rule <= 2; rule++) {
            PatternSequencer x = new PatternSequencer();
            x.addNote(0, 99, 4, 1);
            x.addNote(1, 95, 4, 1);
            x.setVoices(3);
            x.setRule(rule);
            x.addClip(0, 0, 1, 0, 0);
            x.addClip(0, 0, 1, 0, 0);
            x.addClip(0, 1, 1, 9, 0);
            x.addClip(1, 1, 1, 0, 0);
            due(3, x.cutBy(0));
            due(0, x.note(3, 8));
        }
    }

    @Sentence("Voices: the note that had it is cut at this time")
    static void theNoteThatHadTheVoiceIsCutAtThisTime() {
        PatternSequencer x = threeForTwo(0);
        due(200, x.note(0, 7));
        due(800, x.note(0, 6));
        due(0, x.noteOn(0, 199));
        due(2, x.noteOn(0, 200));
    }

    // ---- events

    @Sentence("Events: For each note that is not dropped there are two events")
    static void eachNoteHasTwoEventsAndADroppedOneNone() {
        PatternSequencer x = withClips(1, 1);
        due(2, x.eventCount());
        x.addClip(1, 1, 1, 0, 1);
        due(4, x.eventCount());
        x.setPriority(0, 6);
        due(2, x.eventCount());
        due(0, x.event(0, 2));
        due(0, x.event(1, 2));
        due(0, new PatternSequencer().eventCount());
    }

    @Sentence("Events: it stops, when it does not sound any more")
    static void aNoteStopsWhenItDoesNotSoundAnyMore() {
        PatternSequencer x = withEnvelope(0, 0, 0, 33);
        due(100, x.event(0, 0));
        due(1, x.event(0, 1));
        due(1133, x.event(1, 0));
        due(0, x.event(1, 1));
        PatternSequencer y = withClips(2, 1);
        due(100, y.event(1, 0));
        due(0, y.event(1, 1));
        due(0, y.event(1, 2));
    }

    @Sentence("Events: of several at the same time, those in which notes stop come first")
    static void atOneTimeStopsComeBeforeBeginnings() {
        PatternSequencer x = withNotes(4);
        x.addClip(4, 0, 1, 0, 0);
        x.addClip(0, 1, 1, 0, 0);
        x.addClip(0, 2, 2, 0, 0);
        // notes 0 and 1 stop at 400, notes 2 and 3 begin then
        int[][] events = {{0, 1, 0}, {0, 1, 1}, {400, 0, 0}, {400, 0, 1}, {400, 1, 2}, {400, 1, 3}, {800, 0, 2},
            {800, 0, 3}};
        due(8, x.eventCount());
        for (int k = 0; k < 8; k++) {
            for (int what = 0; what <= 2; what++) {
                due(events[k][what], x.event(k, what));
            }
        }
    }

    @Sentence("Events: and then by the numbers of the notes")
    static void eventsOfOneTimeAndKindAreOrderedByTheNotes() {
        PatternSequencer x = new PatternSequencer();
        x.addNote(0, 90, 1, 1);
        x.setVoices(8);
        for (int k = 0; k < 8; k++) {
            x.addClip(3, 0, 1, -k, 0);
        }
        for (int k = 0; k < 8; k++) {
            due(k, x.event(k, 2));
            due(7 - k, x.event(k, 3));
            due(k, x.event(8 + k, 2));
        }
    }

    public static void main(String[] arguments) throws Exception {
        run(SoundDescriptionTest.class);
    }
}

import java.util.function.Consumer;

/** The description's sentences on texts, history and exceptions, and its last ones: their edges, and what is refused. */
public final class TextDescriptionTest extends Checks {

    // ---- text

    /** The text has so many items; all of its calls are of patterns below 7. */
    private static void isText(String text, int items) {
        PatternSequencer x = typed(text);
        due(items, x.read(7));
        due(text, text(x, 7));
        thrown(MISSING, x, PatternSequencer::errorPosition);
    }

    private static void isNoText(String text, int position) {
        PatternSequencer x = typed(text);
        thrown(ARGUMENT, x, y -> y.read(7));
        due(position, x.errorPosition());
        due(0, x.pattern(7, 0));
        due(1, x.append('r'));
    }

    @Sentence("Text: a buffer of at most 60 characters")
    static void theInputHasAtMost60Characters() {
        PatternSequencer x = new PatternSequencer();
        for (int k = 1; k <= 60; k++) {
            due(k, x.append('c'));
        }
        thrown(STATE, x, y -> y.append('c'));
        thrown(STATE, x, y -> y.append('c'));
        PatternSequencer y = typed("n10.10.1,n10.10.1,n10.10.1,n10.10.1,n10.10.1,n10.10.1,r16,r1");
        thrown(STATE, y, z -> z.append('6'));
        due(8, y.read(0));
        due(1, y.item(0, 7, 2));
    }

    @Sentence("Text: one or several items")
    static void aTextHasOneOrSeveralItems() {
        isText("r1", 1);
        isText("n0.1.1", 1);
        isText("c0*1", 1);
        isText("r1,r1", 2);
        isText("c6*9,n99.16.9,r16", 3);
        isText("r1,r2,r3,r4,r5,r6,r7,r8,r9,r10,r11,r12", 12);
        isNoText("", 0);
    }

    @Sentence("Text: a comma between each two neighboring ones")
    static void aCommaStandsBetweenTwoItemsAlone() {
        isNoText(",", 0);
        isNoText(",r1", 0);
        isNoText("r1,", 3);
        isNoText("r1,,r1", 3);
        isNoText("r1r1", 2);
        isNoText("r1 ,r1", 2);
        isNoText("r1, r1", 3);
        isNoText("r1;r1", 2);
        isNoText(" r1", 0);
        isNoText("r1 ", 2);
    }

    @Sentence("Text: n, the pitch, a point, the length, a point and the velocity of a note")
    static void eachKindOfItemHasItsSigns() {
        isNoText("n1,1,1", 2);
        isNoText("n1.1,1", 4);
        isNoText("n1*1.1", 2);
        isNoText("c1.1", 2);
        isNoText("r1.1", 2);
        isNoText("r.1", 1);
        isNoText("n.1.1", 1);
        isNoText("c*1", 1);
        isNoText("N1.1.1", 0);
        isNoText("R1", 0);
        isNoText("C0*1", 0);
        isNoText("x", 0);
        isNoText("1", 0);
    }

    @Sentence("Text: Numbers are in the ranges above")
    static void pitchesOfATextAreFrom0To99() {
        isText("n0.2.2", 1);
        isText("n99.2.2", 1);
        isNoText("n100.2.2", 3);
        isNoText("n-1.2.2", 1);
        isNoText("n+1.2.2", 1);
        isNoText("n990.2.2", 3);
    }

    @Sentence("Text: in the ranges above")
    static void lengthsOfATextAreFrom1To16() {
        isText("n5.1.2", 1);
        isText("n5.16.2", 1);
        isNoText("n5.0.2", 3);
        isNoText("n5.17.2", 4);
        isNoText("n5.20.2", 4);
        isText("r1", 1);
        isText("r16", 1);
        isNoText("r0", 1);
        isNoText("r17", 2);
        isNoText("r20", 2);
        isNoText("r160", 3);
    }

    @Sentence("Text: the ranges above")
    static void velocitiesOfATextAreFrom1To9() {
        isText("n5.2.1", 1);
        isText("n5.2.9", 1);
        isNoText("n5.2.0", 5);
        isNoText("n5.2.10", 6);
        isNoText("n5.2.99", 6);
    }

    @Sentence("Text: ranges above")
    static void timesOfATextAreFrom1To9() {
        isText("c0*1", 1);
        isText("c0*9", 1);
        isNoText("c0*0", 3);
        isNoText("c0*10", 4);
    }

    @Sentence("Text: where the pattern of a call is from 0 to 7")
    static void calledPatternsOfATextAreFrom0To7() {
        isText("c0*1", 1);
        isText("c6*1", 1);
        isNoText("c8*1", 1);
        isNoText("c9*1", 1);
        isNoText("c10*1", 2);
        isNoText("c7*1,x", 5);
        PatternSequencer x = typed("c7*1");
        thrown(STATE, x, y -> y.read(0));
        thrown(MISSING, x, PatternSequencer::errorPosition);
    }

    @Sentence("Text: without leading zeros")
    static void numbersOfATextHaveNoLeadingZeros() {
        isNoText("n00.1.1", 2);
        isNoText("n01.1.1", 2);
        isNoText("n0.01.1", 3);
        isNoText("n0.1.01", 5);
        isNoText("r01", 1);
        isNoText("c00*1", 2);
        isNoText("c01*1", 2);
        isNoText("c0*01", 3);
        isText("n0.1.1", 1);
        isText("c0*1", 1);
    }

    @Sentence("Text: each digit of a number that can follow belongs to it")
    static void eachDigitThatCanFollowBelongsToTheNumber() {
        isText("n10.10.1", 1);
        PatternSequencer x = typed("n98.12.7");
        x.read(0);
        due(98, x.item(0, 0, 1));
        due(12, x.item(0, 0, 2));
        due(7, x.item(0, 0, 3));
        isText("r10", 1);
        isText("r16", 1);
        isNoText("n9", 2);
        isNoText("n99", 3);
        isNoText("n999", 3);
        isNoText("n12345", 3);
        isNoText("r99", 2);
        isNoText("n1.1.16", 6);
    }

    @Sentence("Text: the smallest index k such that no text of this kind starts with the first k + 1 characters")
    static void theErrorPositionIsWhereNoTextGoesOn() {
        isNoText("?r1,n2.2.2", 0);
        isNoText("r?,n2.2.2", 1);
        isNoText("r1?n2.2.2", 2);
        isNoText("r1,?2.2.2", 3);
        isNoText("r1,n?.2.2", 4);
        isNoText("r1,n2?2.2", 5);
        isNoText("r1,n2.?.2", 6);
        isNoText("r1,n2.2?2", 7);
        isNoText("r1,n2.2.?", 8);
        isNoText("r1,c2?2,r?", 5);
    }

    @Sentence("Text: if there is no such index, it is the length of the text")
    static void theErrorPositionOfABeginningIsItsLength() {
        String text = "n10.10.1,c0*1,";
        for (int length = 0; length <= text.length(); length++) {
            boolean isWhole = length == 8 || length == 13;
            if (!isWhole) {
                isNoText(text.substring(0, length), length);
            }
        }
        isNoText("", 0);
        isNoText("r", 1);
    }

    @Sentence("Text: it is the length of the text")
    static void theErrorPositionOfAFullInputThatIsABeginningIs60() {
        isNoText("r1,r1,r1,r1,r1,r1,r1,r1,r1,r1,r1,r1,r1,r1,r1,r1,r1,r1,r1,r1,", 60);
        isNoText("n10.10.1,n10.10.1,n10.10.1,n10.10.1,n10.10.1,n10.10.1,n10.10", 60);
        isNoText("n10.10.1,n10.10.1,n10.10.1,n10.10.1,n10.10.1,n10.10.1,n10.1.", 60);
        isNoText("n10.10.1,n10.10.1,n10.10.1,n10.10.1,n10.10.1,n10.10.1,n10.1?", 59);
        isNoText("n10.10.1,n10.10.1,n10.10.1,n10.10.1,n10.10.1,n10.10.1,r16,r0", 59);
    }

    // ---- history

    /** Something of everything, without a past. */
    private static PatternSequencer settled() {
        PatternSequencer x = rich(false, "r1");
        x.save();
        x.restore();
        return x;
    }

    /** The call is a change: it is remembered, and undone without a trace. */
    private static void isChange(Consumer<PatternSequencer> call) {
        PatternSequencer x = settled();
        call.accept(x);
        due(0, x.undo());
        thrown(MISSING, x, PatternSequencer::undo);
        same(settled(), x);
    }

    private static void isNoChange(Consumer<PatternSequencer> call) {
        PatternSequencer x = settled();
        call.accept(x);
        thrown(MISSING, x, PatternSequencer::undo);
    }

    @Sentence("History: addNote, addRest, addCall, removeItem")
    static void changesOfPatterns() {
        isChange(x -> x.addNote(0, 99, 1, 1));
        isChange(x -> x.addRest(0, 16));
        isChange(x -> x.addCall(1, 0, 9));
        isChange(x -> x.removeItem(0, 0));
        isChange(x -> x.removeItem(1, 1));
    }

    @Sentence("History: addClip, removeClip, moveClip")
    static void changesOfClips() {
        isChange(x -> x.addClip(0, 0, 1, 0, 0));
        isChange(x -> x.removeClip(0));
        isChange(x -> x.removeClip(1));
        isChange(x -> x.moveClip(0, 9999));
    }

    @Sentence("History: setTempo, removeTempo, setSwing")
    static void changesOfTempo() {
        isChange(x -> x.setTempo(0, 1000));
        isChange(x -> x.setTempo(LAST_TICK, 1000));
        isChange(x -> x.removeTempo(4));
        isChange(x -> x.setSwing(50));
    }

    @Sentence("History: setEnvelope, setPriority, setVoices, setRule")
    static void changesOfInstrumentsAndVoices() {
        isChange(x -> x.setEnvelope(1, 5000, 5000, 0, 5000));
        isChange(x -> x.setPriority(2, 9));
        isChange(x -> x.setVoices(8));
        isChange(x -> x.setRule(2));
    }

    @Sentence("History: or read")
    static void aReadOfSeveralItemsIsOneChange() {
        PatternSequencer x = new PatternSequencer();
        type(x, "r1,r2,r3,n1.1.1");
        due(4, x.read(5));
        due(0, x.undo());
        due(0, x.pattern(5, 0));
        thrown(MISSING, x, PatternSequencer::undo);
    }

    @Sentence("History: A change is a call of")
    static void otherCallsAreNoChanges() {
        isNoChange(x -> x.append('r'));
        isNoChange(PatternSequencer::save);
        isNoChange(PatternSequencer::restore);
        isNoChange(PatternSequencer::clear);
        isNoChange(PatternSequencer::eventCount);
        isNoChange(PatternSequencer::errorPosition);
    }

    @Sentence("History: that returns without an exception")
    static void aCallThatThrowsIsNoChange() {
        isNoChange(x -> thrown(ARGUMENT, x, y -> y.addNote(0, 100, 1, 1)));
        isNoChange(x -> thrown(INDEX, x, y -> y.removeItem(0, 3)));
        isNoChange(x -> thrown(MISSING, x, y -> y.removeTempo(5)));
        isNoChange(x -> thrown(ARGUMENT, x, y -> y.setSwing(51)));
        isNoChange(x -> {
            x.append(',');
            thrown(ARGUMENT, x, y -> y.read(0));
        });
        isNoChange(x -> thrown(INDEX, x, y -> y.read(8)));
    }

    @Sentence("History: before the last 8 changes")
    static void eightChangesAreRememberedAndNotNine() {
        PatternSequencer x = new PatternSequencer();
        for (int k = 1; k <= 8; k++) {
            x.setSwing(k);
        }
        for (int left = 7; left >= 0; left--) {
            due(left, x.undo());
            due(left, x.count(6));
        }
        thrown(MISSING, x, PatternSequencer::undo);
        for (int k = 1; k <= 9; k++) {
            x.setSwing(k);
        }
        for (int left = 7; left >= 0; left--) {
            due(left, x.undo());
            due(left + 1, x.count(6));
        }
        thrown(MISSING, x, PatternSequencer::undo);
        due(1, x.count(6));
    }

    @Sentence("History: the last 8 changes")
    static void theLatest8OfManyChangesAreRemembered() {
        PatternSequencer x = new PatternSequencer();
        for (int k = 1; k <= 45; k++) {
            x.setSwing(k);
            if (k % 10 == 0) {
                due(7, x.undo());
                due(6, x.undo());
                x.setSwing(k);
            }
        }
        for (int left = 7; left >= 0; left--) {
            due(left, x.undo());
        }
        // 45 to 41, then 40, behind which 38 stands, as 39 and the first 40 were undone
        due(36, x.count(6));
        thrown(MISSING, x, PatternSequencer::undo);
    }

    @Sentence("History: everything except the input")
    static void undoLeavesTheInput() {
        PatternSequencer x = new PatternSequencer();
        x.setSwing(1);
        type(x, "r1");
        x.setSwing(2);
        type(x, "6");
        due(1, x.undo());
        due(0, x.undo());
        due(1, x.read(0));
        due(16, x.item(0, 0, 2));
        due(0, x.undo());
        due(1, x.append('r'));
    }

    @Sentence("History: everything except the input, the error position")
    static void undoLeavesTheErrorPosition() {
        PatternSequencer x = new PatternSequencer();
        x.setSwing(1);
        type(x, "r1?");
        thrown(ARGUMENT, x, y -> y.read(0));
        x.undo();
        due(2, x.errorPosition());
    }

    @Sentence("History: and what was saved")
    static void undoLeavesWhatWasSaved() {
        PatternSequencer x = new PatternSequencer();
        x.setSwing(1);
        x.save();
        x.setSwing(2);
        x.undo();
        x.undo();
        due(0, x.count(6));
        x.restore();
        due(1, x.count(6));
    }

    @Sentence("History: clear and restore forget them")
    static void clearForgetsTheChanges() {
        PatternSequencer x = rich();
        x.clear();
        thrown(MISSING, x, PatternSequencer::undo);
        x.setSwing(1);
        due(0, x.undo());
        thrown(MISSING, x, PatternSequencer::undo);
    }

    @Sentence("History: restore forget them")
    static void restoreForgetsTheChanges() {
        PatternSequencer x = rich();
        x.restore();
        thrown(MISSING, x, PatternSequencer::undo);
        x.setSwing(1);
        due(0, x.undo());
        thrown(MISSING, x, PatternSequencer::undo);
        due(1, x.restore());
    }

    // ---- exceptions

    @Sentence("Exceptions: A method that throws an exception leaves the state unchanged")
    static void whatThrowsChangesNothing() {
        refused(ARGUMENT, Checks::rich, x -> x.addNote(0, 1, 1, 10));
        refused(ARGUMENT, Checks::rich, x -> x.addRest(0, 17));
        refused(ARGUMENT, Checks::rich, x -> x.addCall(1, 0, 10));
        refused(INDEX, Checks::rich, x -> x.removeItem(0, 3));
        refused(ARGUMENT, Checks::rich, x -> x.addClip(0, 0, 1, 0, 4));
        refused(INDEX, Checks::rich, x -> x.removeClip(2));
        refused(ARGUMENT, Checks::rich, x -> x.moveClip(1, 10000));
        refused(ARGUMENT, Checks::rich, x -> x.setTempo(7, 1001));
        refused(MISSING, Checks::rich, x -> x.removeTempo(7));
        refused(ARGUMENT, Checks::rich, x -> x.setSwing(51));
        refused(ARGUMENT, Checks::rich, x -> x.setEnvelope(1, 1, 1, 1, 5001));
        refused(ARGUMENT, Checks::rich, x -> x.setPriority(1, 10));
        refused(ARGUMENT, Checks::rich, x -> x.setVoices(9));
        refused(ARGUMENT, Checks::rich, x -> x.setRule(3));
        refused(ARGUMENT, Checks::rich, x -> x.append((char) 127));
        refused(STATE, () -> rich(false, "r1"), PatternSequencer::restore);
    }

    @Sentence("Exceptions: unless its documentation says otherwise")
    static void aRefusedReadChangesTheInputAlone() {
        PatternSequencer x = rich(true, "r1,c1*1");
        thrown(STATE, x, y -> y.read(1));
        same(rich(true, ""), x);
        PatternSequencer z = rich(true, "r1");
        thrown(INDEX, z, y -> y.read(8));
        same(rich(true, ""), z);
    }

    @Sentence("Exceptions: If several exceptions apply")
    static void theIndexIsLookedAtFirst() {
        refused(INDEX, () -> withFullPattern(0), x -> x.addNote(8, 100, 17, 10));
        refused(INDEX, Checks::rich, x -> x.addRest(-1, 0));
        refused(INDEX, Checks::rich, x -> x.addCall(8, 8, 0));
        refused(INDEX, Checks::rich, x -> x.addCall(-1, 0, 0));
        refused(INDEX, Checks::rich, x -> x.pattern(8, 5));
        refused(INDEX, Checks::rich, x -> x.item(8, 0, 4));
        refused(INDEX, Checks::rich, x -> x.item(0, 3, 4));
        refused(INDEX, Checks::rich, x -> x.played(8, -1, 4));
        refused(INDEX, Checks::rich, x -> x.moveClip(2, 10000));
        refused(INDEX, Checks::rich, x -> x.clip(2, 7));
        refused(INDEX, Checks::rich, x -> x.note(9, 9));
        refused(INDEX, Checks::rich, x -> x.setEnvelope(4, -1, -1, -1, -1));
        refused(INDEX, Checks::rich, x -> x.setPriority(4, 10));
        refused(INDEX, Checks::rich, x -> x.instrument(4, 6));
        refused(INDEX, Checks::rich, x -> x.level(9, -1));
        refused(INDEX, Checks::rich, x -> x.noteOn(2, -1));
        refused(INDEX, Checks::rich, x -> x.event(99, 4));
        refused(INDEX, Checks::rich, x -> x.describe(8, -2));
        PatternSequencer x = rich(true, "?");
        thrown(INDEX, x, y -> y.read(8));
        same(rich(true, ""), x);
    }

    @Sentence("Exceptions: the one that is documented first is thrown")
    static void theArgumentsAreLookedAtBeforeTheState() {
        refused(ARGUMENT, () -> withFullPattern(0), x -> x.addNote(0, 100, 1, 1));
        refused(ARGUMENT, () -> withFullPattern(0), x -> x.addRest(0, 17));
        refused(ARGUMENT, () -> withFullPattern(1), x -> x.addCall(1, 1, 1));
        refused(ARGUMENT, Checks::withMostClips, x -> x.addClip(0, 0, 10, 0, 0));
        refused(ARGUMENT, Checks::withMostPlaces, x -> x.setTempo(5, 0));
        refused(ARGUMENT, Checks::rich, x -> x.played(0, 99, 4));
        refused(ARGUMENT, Checks::rich, x -> x.noteOn(0, -1));
        refused(ARGUMENT, PatternSequencer::new, x -> x.eventFrom(-1));
        PatternSequencer x = withFullPattern(0);
        type(x, "r1,");
        thrown(ARGUMENT, x, y -> y.read(0));
        PatternSequencer full = typed("n10.10.1,n10.10.1,n10.10.1,n10.10.1,n10.10.1,n10.10.1,r16,r1");
        thrown(ARGUMENT, full, y -> y.append((char) 31));
    }

    @Sentence("Exceptions: Sets are bit masks, bit k for number k")
    static void theFirstAndTheLastBitOfASet() {
        PatternSequencer x = new PatternSequencer();
        x.addCall(7, 0, 1);
        due(1, x.pattern(7, 3));
        x.addCall(7, 6, 1);
        due(1 | 64, x.pattern(7, 3));
        PatternSequencer y = new PatternSequencer();
        y.addNote(0, 50, 16, 1);
        y.addNote(1, 50, 1, 1);
        y.setVoices(8);
        for (int k = 0; k < 7; k++) {
            y.addClip(k == 0 ? 0 : 1, k == 0 ? 0 : 1, 1, 0, 0);
        }
        y.addClip(1, 0, 1, 50, 0);
        due(1, y.sounding(0));
        due(255, y.sounding(100));
        due(1 | 128, y.sounding(200));
    }

    @Sentence("Exceptions: Methods whose documentation does not mention a change only answer a question")
    static void questionsChangeNothing() {
        PatternSequencer x = rich();
        x.pattern(1, 3);
        x.item(0, 0, 0);
        x.played(1, 4, 0);
        x.clip(1, 6);
        x.count(8);
        x.note(8, 8);
        x.isCut(0);
        thrown(MISSING, x, y -> y.cutBy(8));
        x.tempo(LAST_TICK);
        x.place(2);
        x.timeOf(LAST_TICK, false);
        x.tickAt(LAST_TIME);
        x.instrument(3, 5);
        x.level(8, LAST_TIME);
        x.mix(0);
        x.sounding(500);
        thrown(MISSING, x, y -> y.noteOn(0, LAST_TIME));
        x.polyphony();
        x.busy(1);
        x.lostShare();
        x.eventCount();
        x.event(0, 3);
        x.eventFrom(0);
        x.errorPosition();
        x.describe(1, 0);
        x.describe(7, -1);
        same(rich(), x);
    }

    @Sentence("Exceptions: A change would be too great if a pattern")
    static void aPatternMayHave20000TicksAndNotOneMore() {
        due(20000, withLongest().pattern(3, 1));
        refused(STATE, Checks::withLongest, x -> x.addRest(3, 1));
        PatternSequencer x = withLongest();
        x.addCall(4, 2, 9);
        x.addCall(4, 1, 9);
        x.addCall(4, 0, 9);
        due(19980, x.pattern(4, 1));
        x.addRest(4, 16);
        due(5, x.addRest(4, 4));
        due(20000, x.pattern(4, 1));
        thrown(STATE, x, y -> y.addRest(4, 1));
        x.removeItem(4, 4);
        thrown(STATE, x, y -> y.addNote(4, 1, 5, 1));
        due(5, x.addNote(4, 1, 4, 1));
    }

    @Sentence("Exceptions: or a clip became longer than 20000 ticks")
    static void aClipMayHave20000TicksAndNotOneMore() {
        due(20000, withLongestClip().clip(0, 5));
        refused(STATE, Checks::withLongestClip, x -> x.addNote(2, 1, 1, 1));
        PatternSequencer x = withLongestClip();
        x.removeItem(2, 1);
        due(10000, x.clip(0, 5));
        x.addCall(2, 1, 4);
        x.addCall(2, 0, 9);
        x.addRest(2, 16);
        due(1250 + 1000 + 225 + 16, x.pattern(2, 1));
        thrown(STATE, x, y -> y.addRest(2, 10));
        due(5, x.addRest(2, 9));
        due(20000, x.clip(0, 5));
    }

    @Sentence("Exceptions: or there were more than 300 notes of clips")
    static void thereMayBe300NotesAndNotOneMore() {
        PatternSequencer x = withMostNotes();
        x.removeClip(0);
        x.addClip(0, 2, 2, 0, 0);
        x.addClip(0, 1, 9, 0, 0);
        x.addClip(0, 0, 9, 0, 0);
        due(299, x.count(1));
        thrown(STATE, x, y -> y.addClip(0, 0, 2, 0, 0));
        due(3, x.addClip(0, 0, 1, 0, 0));
        due(300, x.count(1));
        thrown(STATE, x, y -> y.addClip(0, 0, 1, 0, 0));
        due(4, x.addClip(0, 3, 9, 0, 0));
    }

    // ---- more precisely

    @Sentence("More precisely: where the division comes last and is rounded down")
    static void whileItDecaysTheDivisionComesBeforeTheSubtraction() {
        PatternSequencer x = withEnvelope(0, 3, 0, 0);
        due(67, x.level(0, 101));
        due(34, x.level(0, 102));
        due(0, x.level(0, 103));
        PatternSequencer y = withEnvelope(10, 7, 45, 0);
        // 55 * 4 / 7 is 31 and a rest, where 55 / 7 * 4 would be 28
        due(69, y.level(0, 114));
    }

    @Sentence("More precisely: in the attack it is 100 times d, divided by the attack")
    static void inTheAttackTheMultiplicationComesFirst() {
        PatternSequencer x = withEnvelope(7, 0, 0, 0);
        int[] levels = {0, 14, 28, 42, 57, 71, 85, 0};
        for (int d = 0; d < levels.length; d++) {
            due(levels[d], x.level(0, 100 + d));
        }
    }

    @Sentence("More precisely: behind the end it is the level for the milliseconds from its beginning to its end")
    static void behindTheEndTheRoundedLevelIsMultiplied() {
        PatternSequencer x = withEnvelope(1500, 0, 0, 10);
        // held for 1000 of 1500 milliseconds: 66, and 66 * 9 / 10 is 59
        due(66, x.level(0, 1100));
        due(59, x.level(0, 1101));
        due(6, x.level(0, 1109));
        due(0, x.level(0, 1110));
    }

    @Sentence("More precisely: A note that is cut at the time at which it begins never sounds, but it is not dropped")
    static void aNoteThatIsCutWhenItBegins() {
        PatternSequencer x = withNotes(4);
        x.setVoices(1);
        x.setEnvelope(0, 0, 0, 100, 500);
        x.addClip(2, 0, 1, 0, 0);
        x.addClip(2, 1, 1, 0, 0);
        due(0, x.count(2));
        due(1, x.count(3));
        due(1, x.cutBy(0));
        due(200, x.note(0, 7));
        due(0, x.note(0, 8));
        due(0, x.level(0, 200));
        due(1, x.noteOn(0, 200));
        due(1, x.polyphony());
        due(400 + 500, x.busy(0));
        int[][] events = {{200, 0, 0, 0}, {200, 1, 0, 0}, {200, 1, 1, 0}, {1100, 0, 1, 0}};
        due(4, x.eventCount());
        for (int k = 0; k < 4; k++) {
            for (int what = 0; what <= 3; what++) {
                due(events[k][what], x.event(k, what));
            }
        }
    }

    @Sentence("More precisely: Rule 1 for stealing looks at levels, not at loudness")
    static void rule1LooksAtLevelsAlone() {
        PatternSequencer x = threeForTwo(1);
        // note 0 has velocity 2, note 1 has velocity 3
        x.setEnvelope(0, 0, 0, 61, 0);
        x.setEnvelope(1, 0, 0, 60, 0);
        due(2, x.cutBy(1));
        x.setEnvelope(1, 0, 0, 61, 0);
        due(2, x.cutBy(0));
        x.setEnvelope(1, 0, 0, 62, 0);
        due(2, x.cutBy(0));
    }

    @Sentence("More precisely: setEnvelope compares the four numbers of the envelope alone")
    static void setEnvelopeComparesFourNumbersAlone() {
        PatternSequencer x = new PatternSequencer();
        x.setPriority(0, 0);
        x.setPriority(1, 9);
        x.addClip(0, 0, 1, 0, 2);
        due(4, x.setEnvelope(0, 0, 0, 100, 0));
        due(1, x.setEnvelope(0, 1, 0, 100, 0));
        due(1, x.setEnvelope(0, 0, 1, 100, 0));
        due(1, x.setEnvelope(0, 0, 0, 99, 0));
        due(1, x.setEnvelope(0, 0, 0, 100, 1));
        due(2, x.setEnvelope(1, 0, 0, 100, 1));
    }

    @Sentence("More precisely: The swing of a tick is by the milliseconds of this tick")
    static void aTickSwingsByItsOwnMilliseconds() {
        PatternSequencer x = new PatternSequencer();
        x.setSwing(50);
        x.setTempo(3, 40);
        due(150, x.timeOf(1, false));
        due(300 + 20, x.timeOf(3, false));
        x.setTempo(4, 1000);
        due(300 + 20, x.timeOf(3, false));
        due(340 + 1000 + 500, x.timeOf(5, false));
    }

    @Sentence("More precisely: removeTempo throws the NoSuchElementException also for ticks out of range other than 0")
    static void noPlaceIsOutOfRange() {
        refusedOutside(0, LAST_TICK, MISSING, Checks::rich, PatternSequencer::removeTempo);
    }

    @Sentence("More precisely: A call of a pattern that is not lower is an IllegalStateException in read")
    static void aCallOfAPatternThatIsNotLowerIsReadWithAnIllegalState() {
        for (int p = 0; p < 8; p++) {
            PatternSequencer x = new PatternSequencer();
            int pattern = p;
            for (int called = 0; called < 8; called++) {
                type(x, "c" + called + "*1");
                if (called < pattern) {
                    due(1, x.read(pattern));
                } else {
                    thrown(STATE, x, y -> y.read(pattern));
                }
            }
            due(pattern, x.pattern(pattern, 0));
            thrown(MISSING, x, PatternSequencer::errorPosition);
        }
    }

    @Sentence("More precisely: where each item is added behind those before it")
    static void eachItemThatIsReadIsAddedBehindThoseBeforeIt() {
        PatternSequencer x = new PatternSequencer();
        for (int k = 0; k < 10; k++) {
            x.addRest(0, 1);
        }
        type(x, "r2,r3,r4");
        thrown(STATE, x, y -> y.read(0));
        due(10, x.pattern(0, 0));
        type(x, "r2,r3");
        due(2, x.read(0));
        due(2, x.item(0, 10, 2));
        due(3, x.item(0, 11, 2));
        PatternSequencer y = withLongest();
        y.removeItem(3, 1);
        type(y, "c2*5,r1");
        thrown(STATE, y, z -> z.read(3));
        due(10000, y.pattern(3, 1));
    }

    @Sentence("More precisely: its input is also empty if there is no such pattern")
    static void theInputIsEmptyIfThereIsNoSuchPattern() {
        for (int pattern : new int[] {-1, 8, Integer.MIN_VALUE, Integer.MAX_VALUE}) {
            PatternSequencer x = typed("r1,r2");
            thrown(INDEX, x, y -> y.read(pattern));
            due(1, x.append('r'));
            thrown(MISSING, x, PatternSequencer::errorPosition);
        }
    }

    @Sentence("More precisely: a change also if nothing is different then")
    static void aCallThatChangesNothingIsAChange() {
        isChange(x -> x.moveClip(0, x.clip(0, 0)));
        isChange(x -> x.setTempo(4, 50));
        isChange(x -> x.setSwing(30));
        isChange(x -> x.setEnvelope(1, 10, 20, 60, 300));
        isChange(x -> x.setPriority(2, 6));
        isChange(x -> x.setVoices(2));
        isChange(x -> x.setRule(1));
    }

    @Sentence("More precisely: restore brings back the voices, the rule, the tempos and the instruments, too")
    static void restoreBringsBackEverything() {
        PatternSequencer x = new PatternSequencer();
        x.save();
        x.setVoices(1);
        x.setRule(2);
        x.setTempo(0, 7);
        x.setTempo(9, 8);
        x.setSwing(50);
        x.setEnvelope(3, 1, 2, 3, 4);
        x.setPriority(3, 0);
        x.addRest(7, 1);
        x.addClip(0, 7, 1, 0, 0);
        due(0, x.restore());
        PatternSequencer unchanged = new PatternSequencer();
        unchanged.save();
        same(unchanged, x);
    }

    @Sentence("More precisely: the input and the error position stay")
    static void restoreLeavesTheInputAndTheErrorPosition() {
        PatternSequencer x = new PatternSequencer();
        x.save();
        type(x, "r1,?");
        thrown(ARGUMENT, x, y -> y.read(0));
        type(x, "r1");
        x.restore();
        due(3, x.errorPosition());
        due(3, x.append('6'));
        due(1, x.read(0));
        due(16, x.item(0, 0, 2));
    }

    @Sentence("More precisely: The notes that a pattern plays are those of all its calls, each time counted")
    static void theNotesOfAPatternAreCountedEachTime() {
        PatternSequencer x = new PatternSequencer();
        due(0, x.pattern(2, 2));
        x.addNote(0, 1, 1, 1);
        x.addRest(0, 1);
        x.addCall(1, 0, 9);
        x.addNote(1, 1, 1, 1);
        x.addCall(2, 1, 9);
        x.addCall(2, 0, 1);
        x.addCall(2, 0, 9);
        due(1, x.pattern(0, 2));
        due(10, x.pattern(1, 2));
        due(100, x.pattern(2, 2));
    }

    @Sentence("More precisely: A note that stops at a time does not sound at it")
    static void aNoteDoesNotSoundWhenItStops() {
        PatternSequencer x = withNotes(4);
        x.addClip(0, 0, 2, 0, 0);
        due(1, x.polyphony());
        due(0, x.note(1, 8));
        due(0, x.noteOn(0, 399));
        due(1, x.noteOn(0, 400));
        due(0, x.level(0, 400));
        due(100, x.mix(400));
        due(0, x.sounding(800));
        thrown(MISSING, x, y -> y.noteOn(0, 800));
    }

    @Sentence("More precisely: all patterns and clips are looked at as they would be")
    static void aPatternThatCallsTheChangedOneMayBecomeTooLong() {
        refused(STATE, Checks::withLongest, x -> x.addRest(0, 1));
        refused(STATE, Checks::withLongest, x -> x.addNote(1, 1, 1, 1));
        refused(STATE, Checks::withLongest, x -> x.addCall(2, 0, 1));
        PatternSequencer read = withLongest();
        type(read, "r1");
        thrown(STATE, read, y -> y.read(0));
        same(withLongest(), read);
        PatternSequencer x = withLongest();
        // pattern 4 has 20000 ticks then, and is called by no other
        x.addCall(4, 3, 1);
        x.addCall(5, 2, 1);
        due(2, x.addRest(5, 16));
    }

    @Sentence("More precisely: patterns and clips are looked at as they would be")
    static void aClipOfAPatternThatCallsTheChangedOneMayBecomeTooLong() {
        refused(STATE, Checks::withLongestClip, x -> x.addRest(0, 1));
        refused(STATE, Checks::withLongestClip, x -> x.addNote(1, 1, 1, 1));
        refused(STATE, Checks::withLongestClip, x -> x.addCall(1, 0, 1));
        PatternSequencer x = withLongestClip();
        x.removeClip(0);
        x.addClip(0, 2, 7, 0, 0);
        due(3, x.addRest(0, 3));
        due(19600, x.clip(0, 5));
    }

    @Sentence("More precisely: For a change that would be too great")
    static void notesOfAPatternThatCallsTheChangedOneMayBecomeTooMany() {
        refused(STATE, Checks::withMostNotes, x -> x.addNote(1, 1, 1, 1));
        refused(STATE, Checks::withMostNotes, x -> x.addCall(2, 0, 1));
        PatternSequencer x = withMostNotes();
        // notes that no clip plays do not count
        due(1, x.addCall(7, 2, 9));
        due(900, x.pattern(7, 2));
        thrown(STATE, x, y -> y.addClip(0, 7, 1, 0, 0));
    }

    public static void main(String[] arguments) throws Exception {
        run(TextDescriptionTest.class);
    }
}

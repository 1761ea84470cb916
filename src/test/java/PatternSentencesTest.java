/** The sentences of promises 1 to 9, on patterns: their edges, and what they refuse. */
public final class PatternSentencesTest extends Checks {

    // ---- promise 1: a new object

    @Sentence("Promise 1: Creates a sequencer without items and clips")
    static void aNewObjectIsEmpty() {
        PatternSequencer x = new PatternSequencer();
        for (int p = 0; p < 8; p++) {
            int pattern = p;
            due(0, x.pattern(p, 0));
            thrown(INDEX, x, y -> y.item(pattern, 0, 0));
        }
        due(0, x.count(0));
        thrown(INDEX, x, y -> y.clip(0, 0));
        due(0, x.count(1));
        thrown(INDEX, x, y -> y.note(0, 0));
        thrown(MISSING, x, PatternSequencer::undo);
        thrown(STATE, x, PatternSequencer::restore);
        thrown(MISSING, x, PatternSequencer::errorPosition);
        due(1, x.append('r'));
    }

    @Sentence("Promise 1: Creates a sequencer")
    static void twoObjectsShareNothing() {
        PatternSequencer x = rich();
        PatternSequencer y = new PatternSequencer();
        rich();
        same(new PatternSequencer(), y);
        same(rich(), x);
    }

    // ---- promise 2: clear

    @Sentence("Promise 2: Removes all items and clips, and makes everything else what it is at first")
    static void clearMakesEverythingWhatItIsAtFirst() {
        PatternSequencer x = rich(false, "r2,n5");
        x.clear();
        same(new PatternSequencer(), x);
    }

    @Sentence("Promise 2: makes everything else what it is at first")
    static void clearEmptiesTheInputAndForgetsTheErrorPosition() {
        PatternSequencer x = typed("?");
        thrown(ARGUMENT, x, y -> y.read(0));
        type(x, "r1");
        x.clear();
        thrown(MISSING, x, PatternSequencer::errorPosition);
        due(1, x.append('r'));
    }

    @Sentence("Promise 2: Removes all items and clips")
    static void clearOfAFullObject() {
        PatternSequencer x = withMostClips();
        x.addRest(7, 1);
        due(12, x.clear());
        due(0, x.count(0));
        due(0, x.count(1));
        due(0, x.eventCount());
        due(0, x.pattern(0, 0));
        due(0, x.pattern(7, 0));
        PatternSequencer most = withMostNotes();
        due(300, most.count(1));
        most.clear();
        due(0, most.count(1));
        due(0, most.polyphony());
    }

    @Sentence("Promise 2: Removes all items")
    static void clearOfAnEmptyObject() {
        PatternSequencer x = new PatternSequencer();
        due(0, x.clear());
        due(0, x.clear());
        same(new PatternSequencer(), x);
    }

    @Sentence("Promise 2: makes everything else")
    static void clearKeepsWhatIsSaved() {
        PatternSequencer x = rich();
        x.clear();
        due(1, x.restore());
        due(3, x.clip(0, 0));
    }

    @Sentence("Promise 2: Returns the number of clips that there were")
    static void clearReturnsTheClips() {
        due(0, new PatternSequencer().clear());
        due(2, rich().clear());
        due(12, withMostClips().clear());
    }

    // ---- promise 3: addNote

    @Sentence("Promise 3: Adds a note at the end of a pattern")
    static void aNoteIsAddedBehindTheLastItem() {
        PatternSequencer x = new PatternSequencer();
        x.addNote(3, 11, 1, 1);
        x.addRest(3, 2);
        x.addNote(3, 12, 1, 1);
        due("n11.1.1,r2,n12.1.1", text(x, 3));
        for (int k = 4; k <= 12; k++) {
            x.addNote(3, k, 1, 1);
            due(k, x.item(3, k - 1, 1));
        }
        due(11, x.item(3, 0, 1));
    }

    @Sentence("Promise 3: pattern: the number of the pattern, 0 to 7")
    static void aNoteIsAddedToTheFirstAndTheLastPattern() {
        PatternSequencer x = new PatternSequencer();
        x.addNote(0, 1, 1, 1);
        x.addNote(7, 2, 1, 1);
        due("n1.1.1", text(x, 0));
        due("n2.1.1", text(x, 7));
        due(0, x.pattern(1, 0));
        due(0, x.pattern(6, 0));
    }

    @Sentence("Promise 3: pitch: the pitch")
    static void addNoteTakesPitchesFrom0To99() {
        PatternSequencer x = new PatternSequencer();
        x.addNote(1, 0, 1, 1);
        x.addNote(1, 99, 1, 1);
        due("n0.1.1,n99.1.1", text(x, 1));
    }

    @Sentence("Promise 3: length: the length")
    static void addNoteTakesLengthsFrom1To16() {
        PatternSequencer x = new PatternSequencer();
        x.addNote(1, 5, 1, 1);
        x.addNote(1, 5, 16, 1);
        due("n5.1.1,n5.16.1", text(x, 1));
        due(17, x.pattern(1, 1));
    }

    @Sentence("Promise 3: velocity: the velocity")
    static void addNoteTakesVelocitiesFrom1To9() {
        PatternSequencer x = new PatternSequencer();
        x.addNote(1, 5, 1, 1);
        x.addNote(1, 5, 1, 9);
        due("n5.1.1,n5.1.9", text(x, 1));
    }

    @Sentence("Promise 3: Returns the number of items of the pattern")
    static void addNoteReturnsFrom1To12() {
        PatternSequencer x = new PatternSequencer();
        x.addRest(1, 1);
        for (int k = 1; k <= 12; k++) {
            due(k, x.addNote(0, 1, 1, 1));
        }
        due(2, x.addNote(1, 1, 1, 1));
    }

    @Sentence("Promise 3: Throws IndexOutOfBoundsException if there is no such pattern")
    static void addNoteToNoPattern() {
        refusedOutside(0, 7, INDEX, Checks::rich, (x, n) -> x.addNote(n, 1, 1, 1));
    }

    @Sentence("Promise 3: Throws IllegalArgumentException if a number is out of range")
    static void addNoteWithNumbersOutOfRange() {
        refusedOutside(0, 99, ARGUMENT, Checks::rich, (x, n) -> x.addNote(7, n, 1, 1));
        refusedOutside(1, 16, ARGUMENT, Checks::rich, (x, n) -> x.addNote(7, 1, n, 1));
        refusedOutside(1, 9, ARGUMENT, Checks::rich, (x, n) -> x.addNote(7, 1, 1, n));
    }

    @Sentence("Promise 3: Throws IllegalStateException if the pattern has 12 items")
    static void addNoteToAFullPattern() {
        refused(STATE, () -> withFullPattern(0), x -> x.addNote(0, 1, 1, 1));
        refused(STATE, () -> withFullPattern(7), x -> x.addNote(7, 1, 1, 1));
        PatternSequencer x = withFullPattern(3);
        due(1, x.addNote(4, 1, 1, 1));
        x.removeItem(3, 0);
        due(12, x.addNote(3, 1, 1, 1));
    }

    @Sentence("Promise 3: or the change would be too great")
    static void addNoteThatIsTooGreat() {
        refused(STATE, Checks::withLongest, x -> x.addNote(3, 1, 1, 1));
        refused(STATE, Checks::withLongest, x -> x.addNote(0, 1, 1, 1));
        refused(STATE, Checks::withLongestClip, x -> x.addNote(2, 1, 1, 1));
        refused(STATE, Checks::withMostNotes, x -> x.addNote(0, 1, 1, 1));
        due(1, withMostNotes().addNote(3, 1, 1, 1));
    }

    // ---- promise 4: addRest

    @Sentence("Promise 4: Adds a rest at the end of a pattern")
    static void aRestIsAddedBehindTheLastItem() {
        PatternSequencer x = new PatternSequencer();
        x.addRest(3, 1);
        x.addNote(3, 12, 1, 1);
        x.addRest(3, 2);
        due("r1,n12.1.1,r2", text(x, 3));
        for (int k = 4; k <= 12; k++) {
            x.addRest(3, k);
            due(k, x.item(3, k - 1, 2));
        }
        due(1, x.item(3, 0, 2));
    }

    @Sentence("Promise 4: pattern: the number of the pattern, 0 to 7")
    static void aRestIsAddedToTheFirstAndTheLastPattern() {
        PatternSequencer x = new PatternSequencer();
        x.addRest(0, 1);
        x.addRest(7, 2);
        due("r1", text(x, 0));
        due("r2", text(x, 7));
        due(0, x.pattern(1, 0));
        due(0, x.pattern(6, 0));
    }

    @Sentence("Promise 4: length: the length")
    static void addRestTakesLengthsFrom1To16() {
        PatternSequencer x = new PatternSequencer();
        x.addRest(1, 1);
        x.addRest(1, 16);
        due("r1,r16", text(x, 1));
        due(17, x.pattern(1, 1));
    }

    @Sentence("Promise 4: Returns the number of items of the pattern")
    static void addRestReturnsFrom1To12() {
        PatternSequencer x = new PatternSequencer();
        x.addNote(1, 1, 1, 1);
        for (int k = 1; k <= 12; k++) {
            due(k, x.addRest(0, 1));
        }
        due(2, x.addRest(1, 1));
    }

    @Sentence("Promise 4: Throws IndexOutOfBoundsException if there is no such pattern")
    static void addRestToNoPattern() {
        refusedOutside(0, 7, INDEX, Checks::rich, (x, n) -> x.addRest(n, 1));
    }

    @Sentence("Promise 4: Throws IllegalArgumentException if length is out of range")
    static void addRestWithALengthOutOfRange() {
        refusedOutside(1, 16, ARGUMENT, Checks::rich, (x, n) -> x.addRest(7, n));
    }

    @Sentence("Promise 4: Throws IllegalStateException if the pattern has 12 items")
    static void addRestToAFullPattern() {
        refused(STATE, () -> withFullPattern(0), x -> x.addRest(0, 1));
        refused(STATE, () -> withFullPattern(7), x -> x.addRest(7, 1));
        PatternSequencer x = withFullPattern(3);
        due(1, x.addRest(4, 1));
        x.removeItem(3, 11);
        due(12, x.addRest(3, 1));
    }

    @Sentence("Promise 4: or the change would be too great")
    static void addRestThatIsTooGreat() {
        refused(STATE, Checks::withLongest, x -> x.addRest(3, 1));
        refused(STATE, Checks::withLongest, x -> x.addRest(0, 1));
        refused(STATE, Checks::withLongestClip, x -> x.addRest(2, 1));
        due(2, withMostNotes().addRest(0, 1));
    }

    // ---- promise 5: addCall

    @Sentence("Promise 5: Adds a call at the end of a pattern")
    static void aCallIsAddedBehindTheLastItem() {
        PatternSequencer x = new PatternSequencer();
        x.addCall(3, 0, 1);
        x.addNote(3, 12, 1, 1);
        x.addCall(3, 1, 2);
        due("c0*1,n12.1.1,c1*2", text(x, 3));
        for (int k = 4; k <= 12; k++) {
            x.addCall(3, 2, k - 3);
            due(k - 3, x.item(3, k - 1, 2));
        }
        due(0, x.item(3, 0, 1));
    }

    @Sentence("Promise 5: pattern: the number of the pattern, 0 to 7")
    static void aCallIsAddedToPatterns1To7AndToNoneIn0() {
        PatternSequencer x = new PatternSequencer();
        x.addCall(1, 0, 1);
        x.addCall(7, 6, 2);
        due("c0*1", text(x, 1));
        due("c6*2", text(x, 7));
        due(0, x.pattern(6, 0));
        for (int called = -1; called <= 8; called++) {
            int other = called;
            thrown(ARGUMENT, x, y -> y.addCall(0, other, 1));
        }
        due(0, x.pattern(0, 0));
    }

    @Sentence("Promise 5: called: the pattern that is called")
    static void addCallTakesTheLowerPatterns() {
        PatternSequencer x = new PatternSequencer();
        x.addCall(7, 0, 1);
        x.addCall(7, 6, 1);
        due("c0*1,c6*1", text(x, 7));
    }

    @Sentence("Promise 5: times: the number of times")
    static void addCallTakesFrom1To9Times() {
        PatternSequencer x = new PatternSequencer();
        x.addRest(0, 1);
        x.addCall(1, 0, 1);
        x.addCall(1, 0, 9);
        due("c0*1,c0*9", text(x, 1));
        due(10, x.pattern(1, 1));
    }

    @Sentence("Promise 5: Returns the number of items of the pattern")
    static void addCallReturnsFrom1To12() {
        PatternSequencer x = new PatternSequencer();
        x.addNote(2, 1, 1, 1);
        for (int k = 1; k <= 12; k++) {
            due(k, x.addCall(1, 0, 1));
        }
        due(2, x.addCall(2, 0, 1));
    }

    @Sentence("Promise 5: Throws IndexOutOfBoundsException if there is no such pattern")
    static void addCallToNoPattern() {
        refusedOutside(0, 7, INDEX, Checks::rich, (x, n) -> x.addCall(n, 0, 1));
    }

    @Sentence("Promise 5: Throws IllegalArgumentException if called is not a number from 0 to the number of the pattern minus 1")
    static void addCallOfAPatternThatIsNotLower() {
        refusedOutside(0, 0, ARGUMENT, Checks::rich, (x, n) -> x.addCall(1, n, 1));
        refusedOutside(0, 2, ARGUMENT, Checks::rich, (x, n) -> x.addCall(3, n, 1));
        refusedOutside(0, 6, ARGUMENT, Checks::rich, (x, n) -> x.addCall(7, n, 1));
        refusedOutside(0, -1, ARGUMENT, Checks::rich, (x, n) -> x.addCall(0, n, 1));
    }

    @Sentence("Promise 5: or times is out of range")
    static void addCallWithTimesOutOfRange() {
        refusedOutside(1, 9, ARGUMENT, Checks::rich, (x, n) -> x.addCall(7, 0, n));
    }

    @Sentence("Promise 5: Throws IllegalStateException if the pattern has 12 items")
    static void addCallToAFullPattern() {
        refused(STATE, () -> withFullPattern(1), x -> x.addCall(1, 0, 1));
        refused(STATE, () -> withFullPattern(7), x -> x.addCall(7, 6, 1));
        PatternSequencer x = withFullPattern(3);
        due(1, x.addCall(4, 3, 1));
        x.removeItem(3, 5);
        due(12, x.addCall(3, 2, 1));
    }

    @Sentence("Promise 5: or the change would be too great")
    static void addCallThatIsTooGreat() {
        refused(STATE, Checks::withLongest, x -> x.addCall(3, 0, 1));
        refused(STATE, Checks::withLongest, x -> x.addCall(4, 3, 2));
        refused(STATE, Checks::withLongestClip, x -> x.addCall(2, 0, 1));
        refused(STATE, Checks::withMostNotes, x -> x.addCall(2, 0, 1));
        due(1, withLongest().addCall(4, 3, 1));
        due(1, withMostNotes().addCall(3, 0, 9));
    }

    @Sentence("Promise 5: the change would be too great")
    static void aTowerOfCallsThatWouldWrapAround() {
        // 12 calls of 9 times in each of 7 patterns: 108 to the power of 7 ticks, far beyond what an int holds
        PatternSequencer x = new PatternSequencer();
        for (int p = 1; p < 8; p++) {
            for (int k = 0; k < 12; k++) {
                x.addCall(p, p - 1, 9);
            }
        }
        for (int length = 1; length <= 16; length++) {
            int ticks = length;
            thrown(STATE, x, y -> y.addRest(0, ticks));
            thrown(STATE, x, y -> y.addNote(0, 1, ticks, 1));
        }
        due(0, x.pattern(7, 1));
        x.removeItem(2, 0);
        thrown(STATE, x, y -> y.addRest(1, 1));
        thrown(STATE, x, y -> y.addRest(0, 16));
        due(0, x.pattern(0, 0));
        due(12, x.addCall(2, 0, 9));
    }

    // ---- promise 6: removeItem

    @Sentence("Promise 6: Removes an item of a pattern; the later ones move up")
    static void theFirstAMiddleAndTheLastItemAreRemoved() {
        PatternSequencer x = withFullPattern(2);
        x.addRest(1, 15);
        x.addRest(3, 16);
        x.removeItem(2, 0);
        due("r2,r3,r4,r5,r6,r7,r8,r9,r10,r11,r12", text(x, 2));
        x.removeItem(2, 10);
        due("r2,r3,r4,r5,r6,r7,r8,r9,r10,r11", text(x, 2));
        x.removeItem(2, 4);
        due("r2,r3,r4,r5,r7,r8,r9,r10,r11", text(x, 2));
        due("r15", text(x, 1));
        due("r16", text(x, 3));
    }

    @Sentence("Promise 6: Removes an item of a pattern")
    static void theOnlyItemIsRemoved() {
        PatternSequencer x = new PatternSequencer();
        x.addNote(0, 1, 5, 1);
        x.addCall(1, 0, 3);
        x.addClip(0, 1, 2, 0, 0);
        due(6, x.count(1));
        due(0, x.removeItem(0, 0));
        due(0, x.pattern(0, 1));
        due(0, x.pattern(1, 1));
        due(0, x.clip(0, 5));
        due(0, x.count(1));
        due(0, x.removeItem(1, 0));
        due(0, x.pattern(1, 3));
        due(1, x.pattern(1, 4));
    }

    @Sentence("Promise 6: pattern: the number of the pattern, 0 to 7")
    static void anItemOfTheFirstAndTheLastPatternIsRemoved() {
        PatternSequencer x = new PatternSequencer();
        x.addRest(0, 1);
        x.addRest(7, 2);
        due(0, x.removeItem(7, 0));
        due(1, x.pattern(0, 0));
        due(0, x.removeItem(0, 0));
    }

    @Sentence("Promise 6: index: the index of the item, from 0")
    static void removeItemTakesIndexesFrom0() {
        refused(INDEX, () -> withFullPattern(7), x -> x.removeItem(7, 12));
        refused(INDEX, () -> withFullPattern(7), x -> x.removeItem(7, -1));
        PatternSequencer x = withFullPattern(7);
        due(11, x.removeItem(7, 11));
        due(11, x.item(7, 10, 2));
        due(10, x.removeItem(7, 0));
        due(2, x.item(7, 0, 2));
    }

    @Sentence("Promise 6: Returns the number of items that remain")
    static void removeItemReturnsFrom11To0() {
        PatternSequencer x = withFullPattern(5);
        for (int left = 11; left >= 0; left--) {
            due(left, x.removeItem(5, left / 2));
        }
        thrown(INDEX, x, y -> y.removeItem(5, 0));
    }

    @Sentence("Promise 6: Throws IndexOutOfBoundsException if there is no such pattern")
    static void removeItemOfNoPattern() {
        refusedOutside(0, 7, INDEX, Checks::rich, (x, n) -> x.removeItem(n, 0));
        // numbers that, multiplied with the length of a row, wrap around to a pattern that there is
        for (int number : new int[] {858993460, 1 << 28, 1 << 30, 1 << 31, -(1 << 30), 357913942}) {
            refused(INDEX, Checks::rich, x -> x.removeItem(number, 0));
        }
    }

    @Sentence("Promise 6: if there is no such pattern or item")
    static void removeItemOfNoItem() {
        refusedOutside(0, 2, INDEX, Checks::rich, (x, n) -> x.removeItem(0, n));
        refusedOutside(0, -1, INDEX, Checks::rich, (x, n) -> x.removeItem(7, n));
        refused(INDEX, Checks::rich, x -> x.removeItem(7, 0));
    }

    // ---- promise 7: pattern

    @Sentence("Promise 7: Returns a number of a pattern")
    static void theNumbersOfAnEmptyPattern() {
        PatternSequencer x = new PatternSequencer();
        int[] numbers = {0, 0, 0, 0, 1};
        for (int p = 0; p < 8; p++) {
            for (int what = 0; what <= 4; what++) {
                due(numbers[what], x.pattern(p, what));
            }
        }
    }

    @Sentence("Promise 7: pattern: the number of the pattern, 0 to 7")
    static void patternTakesNumbersFrom0To7() {
        PatternSequencer x = new PatternSequencer();
        x.addRest(0, 3);
        x.addRest(7, 5);
        due(3, x.pattern(0, 1));
        due(5, x.pattern(7, 1));
    }

    @Sentence("Promise 7: what: 0 for its items")
    static void theItemsOfAFullPattern() {
        due(12, withFullPattern(6).pattern(6, 0));
        due(0, withFullPattern(6).pattern(5, 0));
    }

    @Sentence("Promise 7: 1 for its length, 2 for the notes that it plays")
    static void theLengthAndTheNotesOfAnItemOfEachKind() {
        PatternSequencer x = new PatternSequencer();
        x.addRest(0, 16);
        due(16, x.pattern(0, 1));
        due(0, x.pattern(0, 2));
        x.addNote(0, 1, 16, 1);
        due(32, x.pattern(0, 1));
        due(1, x.pattern(0, 2));
        x.addCall(1, 0, 9);
        due(288, x.pattern(1, 1));
        due(9, x.pattern(1, 2));
    }

    @Sentence("Promise 7: 3 for the set of all patterns that it calls, directly or through others")
    static void theSetOfAllThatAPatternCalls() {
        PatternSequencer x = new PatternSequencer();
        due(0, x.pattern(7, 3));
        x.addCall(7, 6, 1);
        due(64, x.pattern(7, 3));
        x.addCall(6, 3, 1);
        due(64 | 8, x.pattern(7, 3));
        x.addCall(3, 0, 1);
        due(64 | 8 | 1, x.pattern(7, 3));
        due(8 | 1, x.pattern(6, 3));
        due(1, x.pattern(3, 3));
        due(0, x.pattern(0, 3));
        x.addCall(7, 3, 9);
        due(64 | 8 | 1, x.pattern(7, 3));
        x.removeItem(6, 0);
        due(64 | 8 | 1, x.pattern(7, 3));
        x.removeItem(7, 1);
        due(64, x.pattern(7, 3));
    }

    @Sentence("Promise 7: 4 for its depth: 1 plus the greatest depth of a pattern that it calls, or 1 if it calls none")
    static void theDepthIsFrom1To8() {
        PatternSequencer x = new PatternSequencer();
        x.addRest(7, 1);
        due(1, x.pattern(7, 4));
        for (int p = 1; p < 8; p++) {
            x.addCall(p, p - 1, 1);
            due(p + 1, x.pattern(p, 4));
        }
        x.addCall(7, 0, 1);
        due(8, x.pattern(7, 4));
        x.removeItem(7, 1);
        due(2, x.pattern(7, 4));
        x.removeItem(7, 1);
        due(1, x.pattern(7, 4));
    }

    @Sentence("Promise 7: Throws IndexOutOfBoundsException if there is no such pattern")
    static void patternOfNoNumber() {
        refusedOutside(0, 7, INDEX, Checks::rich, (x, n) -> x.pattern(n, 1));
    }

    @Sentence("Promise 7: Throws IllegalArgumentException if what is not 0 to 4")
    static void patternWithAnotherWhat() {
        refusedOutside(0, 4, ARGUMENT, Checks::rich, (x, n) -> x.pattern(0, n));
        refusedOutside(0, 4, ARGUMENT, Checks::rich, (x, n) -> x.pattern(7, n));
    }

    // ---- promise 8: item

    @Sentence("Promise 8: pattern: the number of the pattern, 0 to 7")
    static void anItemOfTheFirstAndTheLastPattern() {
        PatternSequencer x = new PatternSequencer();
        x.addRest(0, 3);
        x.addRest(7, 5);
        due(3, x.item(0, 0, 2));
        due(5, x.item(7, 0, 2));
    }

    @Sentence("Promise 8: index: the index of the item, from 0")
    static void theFirstAndTheLastItem() {
        PatternSequencer x = withFullPattern(7);
        due(1, x.item(7, 0, 2));
        due(12, x.item(7, 11, 2));
    }

    @Sentence("Promise 8: -1 if the item has no such number")
    static void anItemWithoutANumberAnswersMinus1() {
        PatternSequencer x = new PatternSequencer();
        x.addRest(1, 7);
        x.addCall(1, 0, 8);
        due(-1, x.item(1, 0, 1));
        due(-1, x.item(1, 0, 3));
        due(7, x.item(1, 0, 2));
        due(0, x.item(1, 1, 1));
        due(8, x.item(1, 1, 2));
        due(-1, x.item(1, 1, 3));
        type(x, "r6,c0*5");
        x.read(1);
        due(-1, x.item(1, 2, 1));
        due(-1, x.item(1, 2, 3));
        due(-1, x.item(1, 3, 3));
    }

    @Sentence("Promise 8: what: 0 for its kind, 0 note, 1 rest, 2 call; 1 for its pitch, or the pattern that is called")
    static void theKindsOfItems() {
        PatternSequencer x = new PatternSequencer();
        x.addNote(7, 0, 16, 9);
        x.addRest(7, 16);
        x.addCall(7, 6, 9);
        int[][] items = {{0, 0, 16, 9}, {1, -1, 16, -1}, {2, 6, 9, -1}};
        for (int k = 0; k < 3; k++) {
            for (int what = 0; what <= 3; what++) {
                due(items[k][what], x.item(7, k, what));
            }
        }
    }

    @Sentence("Promise 8: Throws IndexOutOfBoundsException if there is no such pattern")
    static void itemOfNoPattern() {
        refusedOutside(0, 7, INDEX, Checks::rich, (x, n) -> x.item(n, 0, 0));
        for (int number : new int[] {858993460, 1 << 28, 1 << 30, 1 << 31, -(1 << 30), 357913942}) {
            refused(INDEX, Checks::rich, x -> x.item(number, 0, 0));
        }
    }

    @Sentence("Promise 8: if there is no such pattern or item")
    static void itemOfNoIndex() {
        refusedOutside(0, 2, INDEX, Checks::rich, (x, n) -> x.item(0, n, 0));
        refusedOutside(0, 11, INDEX, () -> withFullPattern(0), (x, n) -> x.item(0, n, 0));
        refused(INDEX, Checks::rich, x -> x.item(7, 0, 0));
    }

    @Sentence("Promise 8: Throws IllegalArgumentException if what is not 0 to 3")
    static void itemWithAnotherWhat() {
        refusedOutside(0, 3, ARGUMENT, Checks::rich, (x, n) -> x.item(0, 0, n));
        refusedOutside(0, 3, ARGUMENT, Checks::rich, (x, n) -> x.item(0, 1, n));
        refusedOutside(0, 3, ARGUMENT, Checks::rich, (x, n) -> x.item(1, 0, n));
    }

    // ---- promise 9: played

    @Sentence("Promise 9: pattern: the number of the pattern, 0 to 7")
    static void playedTakesPatternsFrom0To7() {
        PatternSequencer x = new PatternSequencer();
        x.addNote(0, 11, 1, 1);
        x.addNote(7, 22, 1, 1);
        due(11, x.played(0, 0, 1));
        due(22, x.played(7, 0, 1));
    }

    @Sentence("Promise 9: index: the index in the order in which the notes are played, from 0")
    static void theFirstAndTheLastNoteOfMany() {
        PatternSequencer x = withMostNotes();
        x.addCall(3, 2, 9);
        x.addRest(4, 2);
        x.addNote(4, 7, 1, 1);
        x.addCall(4, 3, 9);
        x.addNote(4, 8, 1, 1);
        due(900, x.pattern(3, 2));
        due(8102, x.pattern(4, 2));
        due(7, x.played(4, 0, 1));
        due(2, x.played(4, 0, 0));
        due(50, x.played(4, 1, 1));
        due(3, x.played(4, 1, 0));
        due(50, x.played(4, 8100, 1));
        due(8102, x.played(4, 8100, 0));
        due(8, x.played(4, 8101, 1));
        due(8103, x.played(4, 8101, 0));
        thrown(MISSING, x, y -> y.played(4, 8102, 1));
        thrown(MISSING, x, y -> y.played(4, -1, 1));
    }

    @Sentence("Promise 9: what: 0 for the tick at which it begins, from the beginning of the pattern on")
    static void theTickOfTheFirstNote() {
        PatternSequencer x = new PatternSequencer();
        x.addNote(0, 9, 3, 4);
        x.addRest(1, 16);
        x.addCall(1, 0, 1);
        due(0, x.played(0, 0, 0));
        due(16, x.played(1, 0, 0));
        due(9, x.played(1, 0, 1));
        due(3, x.played(1, 0, 2));
        due(4, x.played(1, 0, 3));
    }

    @Sentence("Promise 9: Throws IndexOutOfBoundsException if there is no such pattern")
    static void playedOfNoPattern() {
        refusedOutside(0, 7, INDEX, Checks::rich, (x, n) -> x.played(n, 0, 0));
    }

    @Sentence("Promise 9: Throws IllegalArgumentException if what is not 0 to 3")
    static void playedWithAnotherWhat() {
        refusedOutside(0, 3, ARGUMENT, Checks::rich, (x, n) -> x.played(0, 0, n));
        refusedOutside(0, 3, ARGUMENT, Checks::rich, (x, n) -> x.played(7, 0, n));
    }

    @Sentence("Promise 9: Throws NoSuchElementException if there is no such note")
    static void playedOfNoNote() {
        refusedOutside(0, 1, MISSING, Checks::rich, (x, n) -> x.played(0, n, 0));
        refusedOutside(0, 4, MISSING, Checks::rich, (x, n) -> x.played(1, n, 3));
        refused(MISSING, Checks::rich, x -> x.played(7, 0, 0));
        PatternSequencer x = withFullPattern(0);
        x.addCall(1, 0, 9);
        thrown(MISSING, x, y -> y.played(0, 0, 0));
        thrown(MISSING, x, y -> y.played(1, 0, 0));
    }

    public static void main(String[] arguments) throws Exception {
        run(PatternSentencesTest.class);
    }
}

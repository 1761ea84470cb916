/** The sentences of promises 40 to 46, on texts, the past and saving: their edges, and what they refuse. */
public final class TextSentencesTest extends Checks {
    private static final String SIXTY = "n10.10.1,n10.10.1,n10.10.1,n10.10.1,n10.10.1,n10.10.1,r16,r1";

    // ---- promise 40: append

    @Sentence("Promise 40: Appends a character to the input")
    static void charactersAreAppendedAtTheEnd() {
        PatternSequencer x = typed("r1");
        x.append('5');
        x.append(',');
        x.append('r');
        x.append('9');
        due(2, x.read(0));
        due("r15,r9", text(x, 0));
    }

    @Sentence("Promise 40: character: the character, with a code from 32 to 126")
    static void appendTakesCodesFrom32To126() {
        PatternSequencer x = new PatternSequencer();
        due(1, x.append((char) 32));
        due(2, x.append((char) 126));
        PatternSequencer all = new PatternSequencer();
        PatternSequencer more = new PatternSequencer();
        for (int code = 32; code <= 126; code++) {
            PatternSequencer y = code < 90 ? all : more;
            due(code < 90 ? code - 31 : code - 89, y.append((char) code));
        }
    }

    @Sentence("Promise 40: Returns the new length of the input")
    static void appendReturnsFrom1To60() {
        PatternSequencer x = new PatternSequencer();
        for (int k = 1; k <= 60; k++) {
            due(k, x.append('0'));
        }
        thrown(ARGUMENT, x, y -> y.read(0));
        due(1, x.append('0'));
        thrown(ARGUMENT, x, y -> y.append((char) 31));
        due(2, x.append('0'));
    }

    @Sentence("Promise 40: Throws IllegalArgumentException if the character code is out of range")
    static void appendOfACodeOutOfRange() {
        for (int code : new int[] {0, 9, 10, 31, 127, 128, 255, 256, 32 + 256, 32768, 65535}) {
            refused(ARGUMENT, Checks::rich, x -> x.append((char) code));
        }
        refused(ARGUMENT, PatternSequencer::new, x -> x.append((char) 31));
        refused(ARGUMENT, () -> typed(SIXTY), x -> x.append((char) 127));
    }

    @Sentence("Promise 40: Throws IllegalStateException if the input has 60 characters")
    static void appendToAFullInput() {
        refused(STATE, () -> typed(SIXTY), x -> x.append('6'));
        PatternSequencer x = typed(SIXTY.substring(1));
        due(60, x.append('1'));
        thrown(STATE, x, y -> y.append('1'));
        thrown(STATE, x, y -> y.append('1'));
    }

    // ---- promise 41: read

    @Sentence("Promise 41: Adds the items of the text in the input at the end of a pattern")
    static void itemsOfEachKindAreReadBehindTheLastItem() {
        PatternSequencer x = new PatternSequencer();
        x.addRest(7, 3);
        type(x, "n0.1.1,n99.16.9,r1,r16,c0*1,c6*9");
        due(6, x.read(7));
        due("r3,n0.1.1,n99.16.9,r1,r16,c0*1,c6*9", text(x, 7));
        due(7, x.pattern(7, 0));
        due(2, x.pattern(7, 2));
        due(3 + 17 + 17, x.pattern(7, 1));
        due(1 | 64, x.pattern(7, 3));
    }

    @Sentence("Promise 41: or none of them")
    static void noItemIsAddedIfOneIsRefused() {
        for (String text : new String[] {"r1,c3*1", "c3*1,r1", "c2*1,c3*1,r1", "c7*9"}) {
            PatternSequencer x = rich(true, text);
            thrown(STATE, x, y -> y.read(3));
            same(rich(true, ""), x);
        }
    }

    @Sentence("Promise 41: The input is empty afterwards, whatever happens")
    static void theInputIsEmptyAfterEachRead() {
        PatternSequencer x = typed("r1");
        x.read(0);
        due(1, x.append('?'));
        thrown(ARGUMENT, x, y -> y.read(0));
        due(1, x.append('c'));
        type(x, "0*1");
        thrown(STATE, x, y -> y.read(0));
        due(1, x.append('r'));
        thrown(INDEX, x, y -> y.read(8));
        due(1, x.append('r'));
        thrown(INDEX, x, y -> y.read(-1));
        thrown(ARGUMENT, x, y -> y.read(0));
        due(0, x.errorPosition());
        PatternSequencer full = typed(SIXTY);
        full.read(0);
        due(1, full.append('r'));
    }

    @Sentence("Promise 41: pattern: the number of the pattern, 0 to 7")
    static void readTakesPatternsFrom0To7() {
        PatternSequencer x = typed("r1");
        x.read(0);
        type(x, "r2");
        x.read(7);
        due("r1", text(x, 0));
        due("r2", text(x, 7));
        due(0, x.pattern(6, 0));
    }

    @Sentence("Promise 41: Returns the number of items that are added")
    static void readReturnsFrom1To12() {
        StringBuilder all = new StringBuilder("r1");
        for (int k = 1; k <= 12; k++) {
            PatternSequencer x = typed(all.toString());
            due(k, x.read(0));
            due(k, x.pattern(0, 0));
            all.append(",r1");
        }
    }

    @Sentence("Promise 41: Throws IndexOutOfBoundsException if there is no such pattern")
    static void readIntoNoPattern() {
        for (int pattern : new int[] {-1, 8, Integer.MIN_VALUE, Integer.MAX_VALUE}) {
            for (String text : new String[] {"", "r1", "?", "c7*1"}) {
                PatternSequencer x = rich(true, text);
                thrown(INDEX, x, y -> y.read(pattern));
                same(rich(true, ""), x);
            }
        }
    }

    @Sentence("Promise 41: Throws IllegalArgumentException if the input is not a text of this kind; the error position is then kept")
    static void readOfWhatIsNoText() {
        String[] texts = {"", "?", "r", "r1,", "r1,n1", "c8*1"};
        for (String text : texts) {
            PatternSequencer x = rich(true, text);
            thrown(ARGUMENT, x, y -> y.read(0));
            due(text.equals("?") ? 0 : text.equals("c8*1") ? 1 : text.length(), x.errorPosition());
            // the rest is as it was, once the error position is that of a rich object again
            type(x, "r1,bad");
            thrown(ARGUMENT, x, y -> y.read(0));
            same(rich(true, ""), x);
        }
    }

    @Sentence("Promise 41: Throws IllegalStateException if one of addNote, addRest and addCall would throw an exception for an item")
    static void readOfMoreItemsThanThereIsRoomFor() {
        PatternSequencer x = withFullPattern(0);
        type(x, "r1");
        thrown(STATE, x, y -> y.read(0));
        same(withFullPattern(0), x);
        PatternSequencer many = typed("r1,r1,r1,r1,r1,r1,r1,r1,r1,r1,r1,r1,r1");
        thrown(STATE, many, y -> y.read(0));
        same(new PatternSequencer(), many);
        PatternSequencer most = typed("r1,r1,r1,r1,r1,r1,r1,r1,r1,r1,r1,r1,r1,r1,r1,r1,r1,r1,r1,16");
        thrown(ARGUMENT, most, y -> y.read(0));
        due(57, most.errorPosition());
        type(most, "r1,r1,r1,r1,r1,r1,r1,r1,r1,r1,r1,r1,r1,r1,r1,r1,r1,r1,r1,r16");
        thrown(STATE, most, y -> y.read(0));
        due(0, most.pattern(0, 0));
        PatternSequencer eleven = withFullPattern(0);
        eleven.removeItem(0, 0);
        type(eleven, "r1,r1");
        thrown(STATE, eleven, y -> y.read(0));
        due(11, eleven.pattern(0, 0));
        type(eleven, "r1");
        due(1, eleven.read(0));
    }

    @Sentence("Promise 41: would throw an exception for an item")
    static void readOfAnItemThatIsTooGreat() {
        PatternSequencer longest = withLongest();
        type(longest, "n1.1.1");
        thrown(STATE, longest, y -> y.read(3));
        type(longest, "r1");
        thrown(STATE, longest, y -> y.read(0));
        type(longest, "c3*1,c3*1");
        thrown(STATE, longest, y -> y.read(7));
        same(withLongest(), longest);
        PatternSequencer clip = withLongestClip();
        type(clip, "c0*1");
        thrown(STATE, clip, y -> y.read(2));
        same(withLongestClip(), clip);
        PatternSequencer notes = withMostNotes();
        type(notes, "n1.1.1");
        thrown(STATE, notes, y -> y.read(1));
        same(withMostNotes(), notes);
        PatternSequencer fitting = withLongest();
        type(fitting, "c3*1");
        due(1, fitting.read(7));
    }

    // ---- promise 42: errorPosition

    @Sentence("Promise 42: Returns the error position that was kept last")
    static void theLatestErrorPositionIsKept() {
        PatternSequencer x = typed("r1?");
        thrown(ARGUMENT, x, y -> y.read(0));
        due(2, x.errorPosition());
        due(2, x.errorPosition());
        type(x, "?");
        thrown(ARGUMENT, x, y -> y.read(0));
        due(0, x.errorPosition());
        type(x, SIXTY.substring(0, 54) + "r1,r1,");
        thrown(ARGUMENT, x, y -> y.read(0));
        due(60, x.errorPosition());
    }

    @Sentence("Promise 42: the error position that was kept last")
    static void otherReadsLeaveTheErrorPosition() {
        PatternSequencer x = typed("r1?");
        thrown(ARGUMENT, x, y -> y.read(0));
        type(x, "r1");
        x.read(0);
        due(2, x.errorPosition());
        type(x, "c0*1");
        thrown(STATE, x, y -> y.read(0));
        due(2, x.errorPosition());
        type(x, "?");
        thrown(INDEX, x, y -> y.read(8));
        due(2, x.errorPosition());
        x.undo();
        due(2, x.errorPosition());
    }

    @Sentence("Promise 42: Throws NoSuchElementException if none was kept")
    static void noErrorPositionIsKeptAtFirst() {
        refused(MISSING, PatternSequencer::new, PatternSequencer::errorPosition);
        PatternSequencer x = typed("r1");
        x.read(0);
        thrown(MISSING, x, PatternSequencer::errorPosition);
        type(x, "c7*1");
        thrown(STATE, x, y -> y.read(0));
        thrown(MISSING, x, PatternSequencer::errorPosition);
        type(x, "?");
        thrown(INDEX, x, y -> y.read(8));
        thrown(MISSING, x, PatternSequencer::errorPosition);
        thrown(ARGUMENT, x, y -> y.append((char) 31));
        thrown(MISSING, x, PatternSequencer::errorPosition);
    }

    // ---- promise 43: describe

    @Sentence("Promise 43: Returns a character of the text of all items of a pattern, or its length, which is 0 if there are no items")
    static void theTextOfNoItemsHasLength0() {
        PatternSequencer x = new PatternSequencer();
        for (int p = 0; p < 8; p++) {
            due(0, x.describe(p, -1));
        }
        x.addRest(3, 1);
        due(2, x.describe(3, -1));
        x.removeItem(3, 0);
        due(0, x.describe(3, -1));
    }

    @Sentence("Promise 43: a character of the text of all items")
    static void theLongestTextOfAll() {
        PatternSequencer x = new PatternSequencer();
        StringBuilder all = new StringBuilder();
        for (int k = 0; k < 12; k++) {
            x.addNote(7, 88 + k, 16, 9);
            all.append(k == 0 ? "" : ",").append("n").append(88 + k).append(".16.9");
        }
        due(107, x.describe(7, -1));
        due(all.toString(), text(x, 7));
        thrown(MISSING, x, y -> y.describe(7, 107));
    }

    @Sentence("Promise 43: the text of all items")
    static void theTextIsReadAgainAsTheSameItems() {
        String text = "n0.1.1,n9.9.9,n10.10.1,n99.16.9,r1,r9,r10,r16,c0*1,c6*9";
        PatternSequencer x = typed(text);
        due(10, x.read(7));
        due(text, text(x, 7));
    }

    @Sentence("Promise 43: pattern: the number of the pattern, 0 to 7")
    static void describeTakesPatternsFrom0To7() {
        PatternSequencer x = new PatternSequencer();
        x.addRest(0, 1);
        x.addRest(7, 16);
        due("r1", text(x, 0));
        due("r16", text(x, 7));
    }

    @Sentence("Promise 43: index: the index of the character, from 0, or -1 for the length")
    static void theFirstAndTheLastCharacterAndTheLength() {
        PatternSequencer x = new PatternSequencer();
        x.addNote(2, 50, 16, 7);
        due('n', x.describe(2, 0));
        due('7', x.describe(2, 7));
        due(8, x.describe(2, -1));
    }

    @Sentence("Promise 43: Throws IndexOutOfBoundsException if there is no such pattern")
    static void describeOfNoPattern() {
        refusedOutside(0, 7, INDEX, Checks::rich, (x, n) -> x.describe(n, 0));
        refusedOutside(0, 7, INDEX, Checks::rich, (x, n) -> x.describe(n, -1));
    }

    @Sentence("Promise 43: Throws NoSuchElementException if index is not -1, and there is no such character")
    static void describeOfNoCharacter() {
        // pattern 1 of a rich object is c0*2,n40.1.1
        refusedOutside(-1, 11, MISSING, Checks::rich, (x, n) -> x.describe(1, n));
        refusedOutside(-1, -1, MISSING, Checks::rich, (x, n) -> x.describe(7, n));
        due('1', rich().describe(1, 11));
    }

    // ---- promise 44: undo

    @Sentence("Promise 44: Undoes the latest change that is remembered")
    static void changesAreUndoneFromTheLatestOn() {
        PatternSequencer x = new PatternSequencer();
        x.addRest(0, 1);
        x.addRest(0, 2);
        x.removeItem(0, 0);
        x.undo();
        due("r1,r2", text(x, 0));
        x.addRest(0, 3);
        x.undo();
        due("r1,r2", text(x, 0));
        x.undo();
        due("r1", text(x, 0));
        x.undo();
        due("", text(x, 0));
        thrown(MISSING, x, PatternSequencer::undo);
    }

    @Sentence("Promise 44: Undoes the latest change")
    static void whatFollowsFromAChangeIsUndoneToo() {
        PatternSequencer x = withClips(2, 1);
        due(true, x.isCut(0));
        x.setPriority(0, 6);
        due(1, x.count(2));
        due(2, x.eventCount());
        x.undo();
        due(true, x.isCut(0));
        due(4, x.eventCount());
        x.undo();
        due(false, x.isCut(0));
        x.undo();
        due(1, x.count(1));
        due(2, x.eventCount());
    }

    @Sentence("Promise 44: Returns the number of changes that are still remembered")
    static void undoReturnsFrom7To0() {
        PatternSequencer x = withMostClips();
        for (int left = 7; left >= 0; left--) {
            due(left, x.undo());
            due(left + 4, x.count(0));
        }
    }

    @Sentence("Promise 44: Throws NoSuchElementException if no change is remembered")
    static void undoOfNoChange() {
        refused(MISSING, PatternSequencer::new, PatternSequencer::undo);
        PatternSequencer x = withMostClips();
        for (int k = 0; k < 8; k++) {
            x.undo();
        }
        thrown(MISSING, x, PatternSequencer::undo);
        thrown(MISSING, x, PatternSequencer::undo);
        due(4, x.count(0));
        x.setSwing(1);
        due(0, x.undo());
        thrown(MISSING, x, PatternSequencer::undo);
    }

    // ---- promise 45: save

    @Sentence("Promise 45: Saves everything except the input, the error position and what was saved before, which is replaced")
    static void whatWasSavedBeforeIsReplaced() {
        PatternSequencer x = rich();
        x.save();
        x.clear();
        due(2, x.restore());
        due(2, x.count(0));
        x.clear();
        due(0, x.save());
        due(0, x.restore());
        due(0, x.count(0));
    }

    @Sentence("Promise 45: Saves everything")
    static void saveAndRestoreKeepEverything() {
        PatternSequencer x = rich(false, "");
        x.save();
        x.addNote(0, 1, 1, 1);
        x.addRest(1, 1);
        x.removeClip(0);
        x.moveClip(0, 77);
        x.setTempo(0, 1);
        x.removeTempo(4);
        x.setSwing(1);
        x.setEnvelope(1, 1, 1, 1, 1);
        x.setPriority(2, 1);
        x.setVoices(1);
        x.setRule(0);
        x.restore();
        PatternSequencer same = rich(false, "");
        same.save();
        same.restore();
        same(same, x);
    }

    @Sentence("Promise 45: except the input, the error position")
    static void theInputAndTheErrorPositionAreNotSaved() {
        PatternSequencer x = typed("r1?");
        thrown(ARGUMENT, x, y -> y.read(0));
        type(x, "r1");
        x.save();
        thrown(INDEX, x, y -> y.read(8));
        type(x, "?");
        thrown(ARGUMENT, x, y -> y.read(0));
        x.restore();
        due(0, x.errorPosition());
        due(1, x.append('r'));
    }

    @Sentence("Promise 45: Saves everything except the input")
    static void saveChangesNothingElse() {
        PatternSequencer x = rich();
        x.restore();
        x.setSwing(1);
        x.setSwing(2);
        x.save();
        due(2, x.count(6));
        due(1, x.undo());
        due(0, x.undo());
        due(0, x.count(6));
    }

    @Sentence("Promise 45: Returns the number of clips")
    static void saveReturnsFrom0To12() {
        due(0, new PatternSequencer().save());
        due(12, withMostClips().save());
    }

    // ---- promise 46: restore

    @Sentence("Promise 46: Restores what was saved")
    static void whatIsRestoredMayBeEmptyOrFull() {
        PatternSequencer empty = new PatternSequencer();
        empty.save();
        empty.addRest(0, 1);
        empty.addClip(0, 0, 1, 0, 0);
        due(0, empty.restore());
        due(0, empty.count(0));
        due(0, empty.pattern(0, 0));
        PatternSequencer full = withMostClips();
        full.save();
        full.clear();
        due(12, full.restore());
        due(1100, full.clip(11, 0));
        due(12, full.count(1));
        thrown(STATE, full, y -> y.addClip(0, 0, 1, 0, 0));
    }

    @Sentence("Promise 46: Restores what was")
    static void whatFollowsFromTheRestoredIsRestoredToo() {
        PatternSequencer x = withClips(3, 2);
        x.save();
        x.removeClip(0);
        x.setVoices(1);
        due(2, x.count(1));
        due(4, x.eventCount());
        x.restore();
        due(3, x.count(1));
        due(6, x.eventCount());
        due(2, x.cutBy(0));
        due(2, x.polyphony());
    }

    @Sentence("Promise 46: It stays saved")
    static void whatWasSavedIsRestoredAgainAndAgain() {
        PatternSequencer x = withClips(3, 2);
        x.save();
        for (int k = 0; k < 3; k++) {
            x.clear();
            due(3, x.restore());
            due(3, x.count(1));
            x.removeClip(0);
            x.addRest(0, 1);
            x.setVoices(8);
            due(3, x.restore());
            due(2, x.count(4));
            due(1, x.pattern(0, 0));
        }
    }

    @Sentence("Promise 46: Returns the number of clips")
    static void restoreReturnsFrom0To12() {
        PatternSequencer x = new PatternSequencer();
        x.save();
        due(0, x.restore());
        PatternSequencer y = withMostClips();
        y.save();
        y.removeClip(0);
        due(12, y.restore());
    }

    @Sentence("Promise 46: Throws IllegalStateException if nothing was saved")
    static void restoreOfNothing() {
        refused(STATE, PatternSequencer::new, PatternSequencer::restore);
        refused(STATE, () -> rich(false, "r1"), PatternSequencer::restore);
        PatternSequencer x = rich(false, "");
        x.clear();
        thrown(STATE, x, PatternSequencer::restore);
    }

    public static void main(String[] arguments) throws Exception {
        run(TextSentencesTest.class);
    }
}

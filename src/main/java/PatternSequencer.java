import java.util.Arrays;
import java.util.NoSuchElementException;

/** A sound sequencer; ../shared/DOC.md says what each call promises. */
public final class PatternSequencer {
    private static final int PATTERNS = 8;
    private static final int MAX_ITEMS = 12;
    private static final int ITEM_SLOTS = PATTERNS * MAX_ITEMS;
    private static final int MAX_TICKS = 20000;
    private static final int MAX_PITCH = 99;
    private static final int MAX_LENGTH = 16;
    private static final int MAX_VELOCITY = 9;
    private static final int MAX_TIMES = 9;

    private static final int MAX_CLIPS = 12;
    private static final int MAX_START = 9999;
    private static final int MAX_TRANSPOSITION = 50;
    private static final int MAX_NOTES = 300;

    private static final int MAX_PLACES = 10;
    private static final int LAST_TICK = 30000;
    private static final int LAST_TIME = 40000000;
    private static final int FIRST_PACE = 100;
    private static final int MAX_PACE = 1000;
    private static final int MAX_SWING = 50;

    private static final int INSTRUMENTS = 4;
    private static final int MAX_STAGE = 5000;
    private static final int FULL = 100;
    private static final int MAX_PRIORITY = 9;
    private static final int FIRST_PRIORITY = 5;
    private static final int MAX_VOICES = 8;
    private static final int FIRST_VOICES = 4;
    private static final int MAX_RULE = 2;

    private static final int MAX_INPUT = 60;
    private static final int MAX_DESCRIPTION = 128;
    private static final int MAX_REMEMBERED = 8;

    // The kinds of items, and the numbers of an item, as item answers them.
    private static final int NOTE = 0;
    private static final int REST = 1;
    private static final int CALL = 2;
    private static final int KIND = 0;
    private static final int FIRST = 1;
    private static final int SECOND = 2;
    private static final int THIRD = 3;
    private static final int ITEM_NUMBERS = 4;

    // The numbers of a pattern, as pattern answers them.
    private static final int ITEMS = 0;
    private static final int LENGTH = 1;
    private static final int NOTES = 2;
    private static final int CALLED = 3;
    private static final int DEPTH = 4;
    private static final int PATTERN_NUMBERS = 5;

    // The numbers of a clip that are held, as clip answers them; two more are reckoned.
    private static final int CLIP_START = 0;
    private static final int CLIP_PATTERN = 1;
    private static final int CLIP_TIMES = 2;
    private static final int CLIP_TRANSPOSITION = 3;
    private static final int CLIP_INSTRUMENT = 4;
    private static final int CLIP_NUMBERS = 5;
    private static final int CLIP_LENGTH = 5;
    private static final int CLIP_NOTES = 6;

    // The numbers of an instrument that are held, as instrument answers them; one more is reckoned.
    private static final int ATTACK = 0;
    private static final int DECAY = 1;
    private static final int SUSTAIN = 2;
    private static final int RELEASE = 3;
    private static final int PRIORITY = 4;
    private static final int INSTRUMENT_NUMBERS = 5;
    private static final int INSTRUMENT_CLIPS = 5;

    // The numbers of a note, as note answers them.
    private static final int NOTE_CLIP = 0;
    private static final int BEGIN_TICK = 1;
    private static final int END_TICK = 2;
    private static final int PITCH = 3;
    private static final int VELOCITY = 4;
    private static final int BEGIN_TIME = 5;
    private static final int END_TIME = 6;
    private static final int STOP_TIME = 7;
    private static final int VOICE = 8;
    private static final int NOTE_NUMBERS = 9;

    private static final int NONE = -1;

    private final Timeline timeline = new Timeline();
    private final Song saved = new Song();
    private final Score score = new Score();
    private final Events events = new Events();
    private final Line input = new Line(MAX_INPUT);
    private final Line description = new Line(MAX_DESCRIPTION);
    private final Reader reader = new Reader();
    private boolean isSaved = false;
    private boolean isScored = false;
    private boolean areEventsListed = false;
    private int keptError = NONE;

    public PatternSequencer() {
    }

    // ---- patterns

    public int clear() {
        Song song = timeline.current();
        int clips = song.clipCount();
        song.reset();
        timeline.forget();
        outdate();
        input.empty();
        keptError = NONE;
        return clips;
    }

    public int addNote(int pattern, int pitch, int length, int velocity)
            throws IndexOutOfBoundsException, IllegalArgumentException, IllegalStateException {
        requirePattern(pattern);
        requireRange(pitch, 0, MAX_PITCH);
        requireRange(length, 1, MAX_LENGTH);
        requireRange(velocity, 1, MAX_VELOCITY);
        return addOneItem(pattern, NOTE, pitch, length, velocity);
    }

    public int addRest(int pattern, int length)
            throws IndexOutOfBoundsException, IllegalArgumentException, IllegalStateException {
        requirePattern(pattern);
        requireRange(length, 1, MAX_LENGTH);
        return addOneItem(pattern, REST, NONE, length, NONE);
    }

    public int addCall(int pattern, int called, int times)
            throws IndexOutOfBoundsException, IllegalArgumentException, IllegalStateException {
        requirePattern(pattern);
        requireRange(called, 0, pattern - 1);
        requireRange(times, 1, MAX_TIMES);
        return addOneItem(pattern, CALL, called, times, NONE);
    }

    public int removeItem(int pattern, int index) throws IndexOutOfBoundsException {
        requirePattern(pattern);
        requireItem(pattern, index);
        Song draft = timeline.draft();
        draft.patterns.dropItem(pattern, index);
        draft.patterns.measure();
        accept();
        return draft.patterns.figure(pattern, ITEMS);
    }

    public int pattern(int pattern, int what) throws IndexOutOfBoundsException, IllegalArgumentException {
        requirePattern(pattern);
        requireRange(what, 0, DEPTH);
        return timeline.current().patterns.figure(pattern, what);
    }

    public int item(int pattern, int index, int what) throws IndexOutOfBoundsException, IllegalArgumentException {
        requirePattern(pattern);
        requireItem(pattern, index);
        requireRange(what, 0, THIRD);
        return timeline.current().patterns.itemNumber(pattern, index, what);
    }

    public int played(int pattern, int index, int what)
            throws IndexOutOfBoundsException, IllegalArgumentException, NoSuchElementException {
        requirePattern(pattern);
        requireRange(what, 0, THIRD);
        Patterns patterns = timeline.current().patterns;
        int found = patterns.findNote(pattern, index);
        if (found == NONE) {
            throw new NoSuchElementException("no such note");
        }
        if (what == 0) {
            return found / ITEM_SLOTS;
        }
        return patterns.slotNumber(found % ITEM_SLOTS, what);
    }

    // ---- clips and notes

    public int addClip(int start, int pattern, int times, int transposition, int instrument)
            throws IllegalArgumentException, IllegalStateException {
        requireRange(start, 0, MAX_START);
        requireRange(pattern, 0, PATTERNS - 1);
        requireRange(times, 1, MAX_TIMES);
        requireRange(transposition, -MAX_TRANSPOSITION, MAX_TRANSPOSITION);
        requireRange(instrument, 0, INSTRUMENTS - 1);
        Song draft = timeline.draft();
        if (draft.clipCount() >= MAX_CLIPS) {
            throw new IllegalStateException("too many clips");
        }
        draft.putClip(start, pattern, times, transposition, instrument);
        acceptIfFitting(draft);
        return draft.clipCount() - 1;
    }

    public int removeClip(int clip) throws IndexOutOfBoundsException {
        requireClip(clip);
        Song draft = timeline.draft();
        draft.dropClip(clip);
        accept();
        return draft.clipCount();
    }

    public int moveClip(int clip, int start) throws IndexOutOfBoundsException, IllegalArgumentException {
        requireClip(clip);
        requireRange(start, 0, MAX_START);
        Song draft = timeline.draft();
        int previous = draft.clipNumber(clip, CLIP_START);
        draft.shiftClip(clip, start);
        accept();
        return previous;
    }

    public int clip(int clip, int what) throws IndexOutOfBoundsException, IllegalArgumentException {
        requireClip(clip);
        requireRange(what, 0, CLIP_NOTES);
        Song song = timeline.current();
        if (what == CLIP_LENGTH) {
            return song.clipLength(clip);
        }
        if (what == CLIP_NOTES) {
            return song.clipNotes(clip);
        }
        return song.clipNumber(clip, what);
    }

    public int count(int what) throws IllegalArgumentException {
        Song song = timeline.current();
        switch (what) {
            case 0:
                return song.clipCount();
            case 1:
                return upToDateScore().noteCount();
            case 2:
                return upToDateScore().droppedCount();
            case 3:
                return upToDateScore().cutCount();
            case 4:
                return song.voices;
            case 5:
                return song.tempos.placeCount();
            case 6:
                return song.tempos.swing;
            case 7:
                return song.rule;
            case 8:
                return upToDateScore().greatestEnd();
            default:
                throw new IllegalArgumentException("no such count");
        }
    }

    public int note(int note, int what) throws IndexOutOfBoundsException, IllegalArgumentException {
        Score worked = upToDateScore();
        requireIndex(note, worked.noteCount());
        requireRange(what, 0, VOICE);
        return worked.noteNumber(note, what);
    }

    public boolean isCut(int note) throws IndexOutOfBoundsException {
        Score worked = upToDateScore();
        requireIndex(note, worked.noteCount());
        return worked.cutterOf(note) != NONE;
    }

    public int cutBy(int note) throws IndexOutOfBoundsException, NoSuchElementException {
        Score worked = upToDateScore();
        requireIndex(note, worked.noteCount());
        int cutter = worked.cutterOf(note);
        if (cutter == NONE) {
            throw new NoSuchElementException("the note is not cut");
        }
        return cutter;
    }

    // ---- tempo and swing

    public int setTempo(int tick, int milliseconds) throws IllegalArgumentException, IllegalStateException {
        requireRange(tick, 0, LAST_TICK);
        requireRange(milliseconds, 1, MAX_PACE);
        Song draft = timeline.draft();
        int index = draft.tempos.placeAt(tick);
        if (index != NONE) {
            draft.tempos.putPace(index, milliseconds);
        } else if (draft.tempos.placeCount() < MAX_PLACES) {
            draft.tempos.addPlace(tick, milliseconds);
        } else {
            throw new IllegalStateException("too many places");
        }
        accept();
        return draft.tempos.placeCount();
    }

    public int removeTempo(int tick) throws IllegalArgumentException, NoSuchElementException {
        if (tick == 0) {
            throw new IllegalArgumentException("the place at tick 0 stays");
        }
        Song draft = timeline.draft();
        int index = draft.tempos.placeAt(tick);
        if (index == NONE) {
            throw new NoSuchElementException("no place at this tick");
        }
        draft.tempos.dropPlace(index);
        accept();
        return draft.tempos.placeCount();
    }

    public int tempo(int tick) throws IllegalArgumentException {
        requireRange(tick, 0, LAST_TICK);
        return timeline.current().tempos.paceAt(tick);
    }

    public int place(int index) throws NoSuchElementException {
        TempoMap tempos = timeline.current().tempos;
        if (index < 0 || index >= tempos.placeCount()) {
            throw new NoSuchElementException("no such place");
        }
        return tempos.placeTick(index);
    }

    public int setSwing(int swing) throws IllegalArgumentException {
        requireRange(swing, 0, MAX_SWING);
        Song draft = timeline.draft();
        int previous = draft.tempos.swing;
        draft.tempos.swing = swing;
        accept();
        return previous;
    }

    public int timeOf(int tick, boolean isPlain) throws IllegalArgumentException {
        requireRange(tick, 0, LAST_TICK);
        TempoMap tempos = timeline.current().tempos;
        return isPlain ? tempos.plainTime(tick) : tempos.swungTime(tick);
    }

    public int tickAt(int time) throws IllegalArgumentException {
        requireTime(time);
        return timeline.current().tempos.lastTickBy(time);
    }

    // ---- instruments and voices

    public int setEnvelope(int instrument, int attack, int decay, int sustain, int release)
            throws IndexOutOfBoundsException, IllegalArgumentException {
        requireInstrument(instrument);
        requireRange(attack, 0, MAX_STAGE);
        requireRange(decay, 0, MAX_STAGE);
        requireRange(sustain, 0, FULL);
        requireRange(release, 0, MAX_STAGE);
        Song draft = timeline.draft();
        draft.putEnvelope(instrument, attack, decay, sustain, release);
        accept();
        return draft.countSameEnvelopes(instrument);
    }

    public int setPriority(int instrument, int priority) throws IndexOutOfBoundsException, IllegalArgumentException {
        requireInstrument(instrument);
        requireRange(priority, 0, MAX_PRIORITY);
        Song draft = timeline.draft();
        int previous = draft.instrumentNumber(instrument, PRIORITY);
        draft.putInstrumentNumber(instrument, PRIORITY, priority);
        accept();
        return previous;
    }

    public int instrument(int instrument, int what) throws IndexOutOfBoundsException, IllegalArgumentException {
        requireInstrument(instrument);
        requireRange(what, 0, INSTRUMENT_CLIPS);
        Song song = timeline.current();
        if (what == INSTRUMENT_CLIPS) {
            return song.countClipsWith(instrument);
        }
        return song.instrumentNumber(instrument, what);
    }

    public int setVoices(int voices) throws IllegalArgumentException {
        requireRange(voices, 1, MAX_VOICES);
        Song draft = timeline.draft();
        int previous = draft.voices;
        draft.voices = voices;
        accept();
        return previous;
    }

    public int setRule(int rule) throws IllegalArgumentException {
        requireRange(rule, 0, MAX_RULE);
        Song draft = timeline.draft();
        int previous = draft.rule;
        draft.rule = rule;
        accept();
        return previous;
    }

    public int level(int note, int time) throws IndexOutOfBoundsException, IllegalArgumentException {
        Score worked = upToDateScore();
        requireIndex(note, worked.noteCount());
        requireTime(time);
        return worked.levelOf(timeline.current(), note, time);
    }

    public int mix(int time) throws IllegalArgumentException {
        requireTime(time);
        return upToDateScore().loudnessAt(timeline.current(), time);
    }

    public int sounding(int time) throws IllegalArgumentException {
        requireTime(time);
        return upToDateScore().voicesAt(time);
    }

    public int noteOn(int voice, int time)
            throws IndexOutOfBoundsException, IllegalArgumentException, NoSuchElementException {
        requireVoice(voice);
        requireTime(time);
        int found = upToDateScore().noteWith(voice, time);
        if (found == NONE) {
            throw new NoSuchElementException("the voice has no note that sounds then");
        }
        return found;
    }

    public int polyphony() {
        return eventsOf(upToDateScore()).greatestNumberAtOnce();
    }

    public int busy(int voice) throws IndexOutOfBoundsException {
        requireVoice(voice);
        return upToDateScore().soundOf(voice);
    }

    public double lostShare() throws ArithmeticException {
        Score worked = upToDateScore();
        int notes = worked.noteCount();
        if (notes <= 0) {
            throw new ArithmeticException("there are no notes");
        }
        return (double) (worked.droppedCount() + worked.cutCount()) / (double) notes;
    }

    // ---- events, texts, history and saving

    public int eventCount() {
        return eventsOf(upToDateScore()).size();
    }

    public int event(int index, int what) throws IndexOutOfBoundsException, IllegalArgumentException {
        Events listed = eventsOf(upToDateScore());
        if (index < 0 || index >= listed.size()) {
            throw new IndexOutOfBoundsException("no such event");
        }
        switch (what) {
            case 0:
                return listed.timeAt(index);
            case 1:
                return listed.kindAt(index);
            case 2:
                return listed.noteAt(index);
            case 3:
                return score.noteNumber(listed.noteAt(index), VOICE);
            default:
                throw new IllegalArgumentException("no such number of an event");
        }
    }

    public int eventFrom(int time) throws IllegalArgumentException, NoSuchElementException {
        requireTime(time);
        int found = eventsOf(upToDateScore()).firstFrom(time);
        if (found == NONE) {
            throw new NoSuchElementException("no event then or later");
        }
        return found;
    }

    public int append(char character) throws IllegalArgumentException, IllegalStateException {
        requireRange(character, 32, 126);
        if (input.isFull()) {
            throw new IllegalStateException("the input is full");
        }
        input.put(character);
        return input.size();
    }

    public int read(int pattern) throws IndexOutOfBoundsException, IllegalArgumentException, IllegalStateException {
        boolean isText = reader.parse(input);
        input.empty();
        requirePattern(pattern);
        if (!isText) {
            keptError = reader.errorIndex();
            throw new IllegalArgumentException("the input is not a text of items");
        }
        Song draft = timeline.draft();
        for (int k = 0; k < reader.itemCount(); k++) {
            if (reader.number(k, KIND) == CALL && reader.number(k, FIRST) >= pattern) {
                throw new IllegalStateException("a call of a pattern that is not lower");
            }
            putItem(draft, pattern, reader.number(k, KIND), reader.number(k, FIRST),
                    reader.number(k, SECOND), reader.number(k, THIRD));
        }
        acceptIfFitting(draft);
        return reader.itemCount();
    }

    public int errorPosition() throws NoSuchElementException {
        if (keptError == NONE) {
            throw new NoSuchElementException("no error position was kept");
        }
        return keptError;
    }

    public int describe(int pattern, int index) throws IndexOutOfBoundsException, NoSuchElementException {
        requirePattern(pattern);
        timeline.current().patterns.write(pattern, description);
        if (index == -1) {
            return description.size();
        }
        if (index < 0 || index >= description.size()) {
            throw new NoSuchElementException("no such character");
        }
        return description.signAt(index);
    }

    public int undo() throws NoSuchElementException {
        if (timeline.rememberedCount() <= 0) {
            throw new NoSuchElementException("no change is remembered");
        }
        timeline.goBack();
        outdate();
        return timeline.rememberedCount();
    }

    public int save() {
        saved.copyFrom(timeline.current());
        isSaved = true;
        return saved.clipCount();
    }

    public int restore() throws IllegalStateException {
        if (!isSaved) {
            throw new IllegalStateException("nothing was saved");
        }
        timeline.current().copyFrom(saved);
        timeline.forget();
        outdate();
        return saved.clipCount();
    }

    // ---- what the calls share

    private int addOneItem(int pattern, int kind, int first, int second, int third) {
        Song draft = timeline.draft();
        putItem(draft, pattern, kind, first, second, third);
        acceptIfFitting(draft);
        return draft.patterns.figure(pattern, ITEMS);
    }

    private static void putItem(Song draft, int pattern, int kind, int first, int second, int third) {
        if (draft.patterns.figure(pattern, ITEMS) >= MAX_ITEMS) {
            throw new IllegalStateException("too many items");
        }
        draft.patterns.putItem(pattern, kind, first, second, third);
    }

    /** Makes the draft the present song, if it is not too great. */
    private void acceptIfFitting(Song draft) {
        if (!draft.patterns.measure() || !draft.hasFittingClips()) {
            throw new IllegalStateException("the change is too great");
        }
        accept();
    }

    private void accept() {
        timeline.acceptDraft();
        outdate();
    }

    private void outdate() {
        isScored = false;
        areEventsListed = false;
    }

    // Notes and voices are worked out only when a call asks for them: most runs change much between two questions.
    private Score upToDateScore() {
        if (!isScored) {
            Song song = timeline.current();
            score.collectNotes(song);
            score.numberNotes(song);
            score.shareVoices(song);
            isScored = true;
        }
        return score;
    }

    private Events eventsOf(Score worked) {
        if (!areEventsListed) {
            events.list(worked);
            areEventsListed = true;
        }
        return events;
    }

    private static void requireRange(int number, int low, int high) {
        if (number < low || number > high) {
            throw new IllegalArgumentException("a number is out of range");
        }
    }

    private static void requireTime(int time) {
        requireRange(time, 0, LAST_TIME);
    }

    private static void requireIndex(int index, int size) {
        if (index < 0 || index >= size) {
            throw new IndexOutOfBoundsException("no such number");
        }
    }

    private static void requirePattern(int pattern) {
        requireIndex(pattern, PATTERNS);
    }

    private static void requireInstrument(int instrument) {
        requireIndex(instrument, INSTRUMENTS);
    }

    private void requireItem(int pattern, int index) {
        requireIndex(index, timeline.current().patterns.figure(pattern, ITEMS));
    }

    private void requireClip(int clip) {
        requireIndex(clip, timeline.current().clipCount());
    }

    private void requireVoice(int voice) {
        requireIndex(voice, timeline.current().voices);
    }

    // Every row is reached through a test of the index, here or in the class that holds it.
    private static int numberAt(int[] row, int index) {
        return index >= 0 && index < row.length ? row[index] : 0;
    }

    private static void putAt(int[] row, int index, int number) {
        if (index >= 0 && index < row.length) {
            row[index] = number;
        }
    }

    private static void removeRow(int[] rows, int from, int width, int end) {
        if (from >= 0 && width >= 0 && end <= rows.length && from <= end - width) {
            System.arraycopy(rows, from + width, rows, from, end - from - width);
        }
    }

    private static void copyRow(int[] source, int[] target) {
        System.arraycopy(source, 0, target, 0, Math.min(source.length, target.length));
    }

    /** The items of all patterns, and the numbers of each pattern that follow from them. */
    private static final class Patterns {
        private final int[] items = new int[ITEM_SLOTS * ITEM_NUMBERS];
        private final int[] figures = new int[PATTERNS * PATTERN_NUMBERS];

        void reset() {
            Arrays.fill(figures, 0);
            for (int pattern = 0; pattern < PATTERNS; pattern++) {
                putFigure(pattern, DEPTH, 1);
            }
        }

        void copyFrom(Patterns other) {
            copyRow(other.items, items);
            copyRow(other.figures, figures);
        }

        int figure(int pattern, int what) {
            int index = pattern * PATTERN_NUMBERS + what;
            return index >= 0 && index < figures.length ? figures[index] : 0;
        }

        private void putFigure(int pattern, int what, int number) {
            int index = pattern * PATTERN_NUMBERS + what;
            if (index >= 0 && index < figures.length) {
                figures[index] = number;
            }
        }

        int slotNumber(int slot, int what) {
            int index = slot * ITEM_NUMBERS + what;
            return index >= 0 && index < items.length ? items[index] : 0;
        }

        int itemNumber(int pattern, int item, int what) {
            int index = (pattern * MAX_ITEMS + item) * ITEM_NUMBERS + what;
            return index >= 0 && index < items.length ? items[index] : 0;
        }

        void putItem(int pattern, int kind, int first, int second, int third) {
            int count = figure(pattern, ITEMS);
            int base = (pattern * MAX_ITEMS + count) * ITEM_NUMBERS;
            putAt(items, base + KIND, kind);
            putAt(items, base + FIRST, first);
            putAt(items, base + SECOND, second);
            putAt(items, base + THIRD, third);
            putFigure(pattern, ITEMS, count + 1);
        }

        void dropItem(int pattern, int index) {
            int count = figure(pattern, ITEMS);
            int from = (pattern * MAX_ITEMS + index) * ITEM_NUMBERS;
            int end = (pattern * MAX_ITEMS + count) * ITEM_NUMBERS;
            removeRow(items, from, ITEM_NUMBERS, end);
            putFigure(pattern, ITEMS, count - 1);
        }

        /** Works the figures out anew; false, with figures of no use, if a pattern is too long. */
        boolean measure() {
            for (int pattern = 0; pattern < PATTERNS; pattern++) {
                measureOne(pattern);
                // Stopping at the first keeps the sums of those that call it small.
                if (figure(pattern, LENGTH) > MAX_TICKS) {
                    return false;
                }
            }
            return true;
        }

        private void measureOne(int pattern) {
            int length = 0;
            int notes = 0;
            int called = 0;
            int depth = 1;
            int itemCount = figure(pattern, ITEMS);
            for (int index = 0; index < itemCount; index++) {
                length += lengthOf(pattern, index);
                notes += notesOf(pattern, index);
                if (itemNumber(pattern, index, KIND) == CALL) {
                    int other = itemNumber(pattern, index, FIRST);
                    called |= 1 << other | figure(other, CALLED);
                    depth = Math.max(depth, 1 + figure(other, DEPTH));
                }
            }
            putFigure(pattern, LENGTH, length);
            putFigure(pattern, NOTES, notes);
            putFigure(pattern, CALLED, called);
            putFigure(pattern, DEPTH, depth);
        }

        private int lengthOf(int pattern, int index) {
            int second = itemNumber(pattern, index, SECOND);
            if (itemNumber(pattern, index, KIND) == CALL) {
                return second * figure(itemNumber(pattern, index, FIRST), LENGTH);
            }
            return second;
        }

        private int notesOf(int pattern, int index) {
            int kind = itemNumber(pattern, index, KIND);
            if (kind == CALL) {
                return itemNumber(pattern, index, SECOND) * figure(itemNumber(pattern, index, FIRST), NOTES);
            }
            return kind == NOTE ? 1 : 0;
        }

        /**
         * The slot of the item of a played note, plus ITEM_SLOTS times the tick at which it begins; or NONE.
         * One number carries both, so that nothing has to be made.
         */
        int findNote(int pattern, int note) {
            if (note < 0) {
                return NONE;
            }
            int inside = pattern;
            int index = 0;
            int left = note;
            int tick = 0;
            for (int step = 0; step < ITEM_SLOTS && index < figure(inside, ITEMS); step++) {
                int notes = notesOf(inside, index);
                if (left >= notes) {
                    left -= notes;
                    tick += lengthOf(inside, index);
                    index++;
                } else if (itemNumber(inside, index, KIND) == NOTE) {
                    return tick * ITEM_SLOTS + inside * MAX_ITEMS + index;
                } else {
                    inside = itemNumber(inside, index, FIRST);
                    index = 0;
                    int once = figure(inside, NOTES);
                    if (once <= 0) {
                        return NONE;
                    }
                    tick += left / once * figure(inside, LENGTH);
                    left %= once;
                }
            }
            return NONE;
        }

        void write(int pattern, Line line) {
            int itemCount = figure(pattern, ITEMS);
            line.empty();
            for (int index = 0; index < itemCount; index++) {
                if (index > 0) {
                    line.put(',');
                }
                writeItem(pattern, index, line);
            }
        }

        private void writeItem(int pattern, int index, Line line) {
            int kind = itemNumber(pattern, index, KIND);
            if (kind == REST) {
                line.put('r');
            } else {
                line.put(kind == NOTE ? 'n' : 'c');
                line.putNumber(itemNumber(pattern, index, FIRST));
                line.put(kind == NOTE ? '.' : '*');
            }
            line.putNumber(itemNumber(pattern, index, SECOND));
            if (kind == NOTE) {
                line.put('.');
                line.putNumber(itemNumber(pattern, index, THIRD));
            }
        }
    }

    /** The milliseconds that ticks take, and the swing. */
    private static final class TempoMap {
        private final int[] ticks = new int[MAX_PLACES];
        private final int[] paces = new int[MAX_PLACES];
        private int count;
        private int swing;

        void reset() {
            count = 1;
            swing = 0;
            ticks[0] = 0;
            paces[0] = FIRST_PACE;
        }

        void copyFrom(TempoMap other) {
            copyRow(other.ticks, ticks);
            copyRow(other.paces, paces);
            count = other.count;
            swing = other.swing;
        }

        int placeCount() {
            return count;
        }

        int placeTick(int index) {
            return index >= 0 && index < ticks.length ? ticks[index] : 0;
        }

        private int placePace(int index) {
            return index >= 0 && index < paces.length ? paces[index] : 0;
        }

        int placeAt(int tick) {
            for (int index = 0; index < count; index++) {
                if (placeTick(index) == tick) {
                    return index;
                }
            }
            return NONE;
        }

        void putPace(int index, int pace) {
            if (index >= 0 && index < paces.length) {
                paces[index] = pace;
            }
        }

        void addPlace(int tick, int pace) {
            if (count < 0 || count >= ticks.length || count >= paces.length) {
                return;
            }
            int index = count;
            while (index > 0 && ticks[index - 1] > tick) {
                ticks[index] = ticks[index - 1];
                paces[index] = paces[index - 1];
                index--;
            }
            ticks[index] = tick;
            paces[index] = pace;
            count++;
        }

        void dropPlace(int index) {
            removeRow(ticks, index, 1, count);
            removeRow(paces, index, 1, count);
            count--;
        }

        int paceAt(int tick) {
            int pace = placePace(0);
            for (int index = 1; index < count && placeTick(index) <= tick; index++) {
                pace = placePace(index);
            }
            return pace;
        }

        int plainTime(int tick) {
            int time = 0;
            int until = tick;
            for (int index = count - 1; index >= 0; index--) {
                int from = placeTick(index);
                if (from < until) {
                    time += (until - from) * placePace(index);
                    until = from;
                }
            }
            return time;
        }

        int swungTime(int tick) {
            int time = plainTime(tick);
            return (tick & 1) == 1 ? time + swing * paceAt(tick) / 100 : time;
        }

        int lastTickBy(int time) {
            int found = 0;
            int passed = 0;
            for (int index = 0; index < count && passed <= time; index++) {
                int from = placeTick(index);
                int until = index + 1 < count ? placeTick(index + 1) : LAST_TICK;
                int pace = placePace(index);
                if (pace > 0) {
                    found = Math.min(until, from + (time - passed) / pace);
                }
                passed += (until - from) * pace;
            }
            return found;
        }
    }

    /** All that a change can change. */
    private static final class Song {
        private final Patterns patterns = new Patterns();
        private final TempoMap tempos = new TempoMap();
        private final int[] clips = new int[MAX_CLIPS * CLIP_NUMBERS];
        private final int[] instruments = new int[INSTRUMENTS * INSTRUMENT_NUMBERS];
        private int clipCount;
        private int voices;
        private int rule;

        Song() {
            reset();
        }

        void reset() {
            patterns.reset();
            tempos.reset();
            clipCount = 0;
            voices = FIRST_VOICES;
            rule = 0;
            for (int instrument = 0; instrument < INSTRUMENTS; instrument++) {
                putEnvelope(instrument, 0, 0, FULL, 0);
                putInstrumentNumber(instrument, PRIORITY, FIRST_PRIORITY);
            }
        }

        void copyFrom(Song other) {
            patterns.copyFrom(other.patterns);
            tempos.copyFrom(other.tempos);
            copyRow(other.clips, clips);
            copyRow(other.instruments, instruments);
            clipCount = other.clipCount;
            voices = other.voices;
            rule = other.rule;
        }

        /** Whether no clip is too long and the notes are not too many, once the patterns are measured. */
        boolean hasFittingClips() {
            int notes = 0;
            for (int clip = 0; clip < clipCount; clip++) {
                if (clipLength(clip) > MAX_TICKS) {
                    return false;
                }
                notes += clipNotes(clip);
            }
            return notes <= MAX_NOTES;
        }

        int clipCount() {
            return clipCount;
        }

        int clipNumber(int clip, int what) {
            int index = clip * CLIP_NUMBERS + what;
            return index >= 0 && index < clips.length ? clips[index] : 0;
        }

        int clipLength(int clip) {
            return clipNumber(clip, CLIP_TIMES) * patterns.figure(clipNumber(clip, CLIP_PATTERN), LENGTH);
        }

        int clipNotes(int clip) {
            return clipNumber(clip, CLIP_TIMES) * patterns.figure(clipNumber(clip, CLIP_PATTERN), NOTES);
        }

        void putClip(int start, int pattern, int times, int transposition, int instrument) {
            int base = clipCount * CLIP_NUMBERS;
            putAt(clips, base + CLIP_START, start);
            putAt(clips, base + CLIP_PATTERN, pattern);
            putAt(clips, base + CLIP_TIMES, times);
            putAt(clips, base + CLIP_TRANSPOSITION, transposition);
            putAt(clips, base + CLIP_INSTRUMENT, instrument);
            clipCount++;
        }

        void dropClip(int clip) {
            removeRow(clips, clip * CLIP_NUMBERS, CLIP_NUMBERS, clipCount * CLIP_NUMBERS);
            clipCount--;
        }

        void shiftClip(int clip, int start) {
            putAt(clips, clip * CLIP_NUMBERS + CLIP_START, start);
        }

        int instrumentNumber(int instrument, int what) {
            int index = instrument * INSTRUMENT_NUMBERS + what;
            return index >= 0 && index < instruments.length ? instruments[index] : 0;
        }

        void putInstrumentNumber(int instrument, int what, int number) {
            putAt(instruments, instrument * INSTRUMENT_NUMBERS + what, number);
        }

        void putEnvelope(int instrument, int attack, int decay, int sustain, int release) {
            putInstrumentNumber(instrument, ATTACK, attack);
            putInstrumentNumber(instrument, DECAY, decay);
            putInstrumentNumber(instrument, SUSTAIN, sustain);
            putInstrumentNumber(instrument, RELEASE, release);
        }

        int countSameEnvelopes(int instrument) {
            int same = 0;
            for (int other = 0; other < INSTRUMENTS; other++) {
                if (hasSameEnvelope(instrument, other)) {
                    same++;
                }
            }
            return same;
        }

        private boolean hasSameEnvelope(int one, int other) {
            for (int what = ATTACK; what <= RELEASE; what++) {
                if (instrumentNumber(one, what) != instrumentNumber(other, what)) {
                    return false;
                }
            }
            return true;
        }

        int countClipsWith(int instrument) {
            int found = 0;
            for (int clip = 0; clip < clipCount; clip++) {
                if (clipNumber(clip, CLIP_INSTRUMENT) == instrument) {
                    found++;
                }
            }
            return found;
        }

        /** The level of a note of an instrument that is held for some milliseconds. */
        int heldLevel(int instrument, int held) {
            int attack = instrumentNumber(instrument, ATTACK);
            if (attack > 0 && held < attack) {
                return FULL * held / attack;
            }
            int decay = instrumentNumber(instrument, DECAY);
            int sustain = instrumentNumber(instrument, SUSTAIN);
            if (decay > 0 && held < attack + decay) {
                return FULL - (FULL - sustain) * (held - attack) / decay;
            }
            return sustain;
        }
    }

    /** The present song, the songs before the latest changes, and a draft for the next change, in a ring. */
    private static final class Timeline {
        private static final int RING = MAX_REMEMBERED + 2;
        private final Song[] songs = new Song[RING];
        private int now = 0;
        private int remembered = 0;

        Timeline() {
            for (int k = 0; k < RING; k++) {
                songs[k] = new Song();
            }
        }

        Song current() {
            return songs[Math.floorMod(now, RING)];
        }

        /** A copy of the present song, which becomes the present one if it is accepted. */
        Song draft() {
            Song draft = songs[Math.floorMod(now + 1, RING)];
            draft.copyFrom(current());
            return draft;
        }

        void acceptDraft() {
            now = Math.floorMod(now + 1, RING);
            remembered = Math.min(remembered + 1, MAX_REMEMBERED);
        }

        void goBack() {
            now = Math.floorMod(now - 1, RING);
            remembered--;
        }

        void forget() {
            remembered = 0;
        }

        int rememberedCount() {
            return remembered;
        }
    }

    /** The notes of all clips with their voices. */
    private static final class Score {
        // Keys for sorting carry what they order in their lowest bits, enough for the number of a note.
        private static final int NUMBER_BITS = 9;
        private static final int NUMBER_MASK = 511;
        private static final int PITCH_BITS = 7;
        private static final int PRIORITY_BITS = 4;

        private final int[] rows = new int[MAX_NOTES * NOTE_NUMBERS];
        private final int[] cutters = new int[MAX_NOTES];
        private final int[] sources = new int[MAX_NOTES];
        private final int[] holders = new int[MAX_VOICES];
        private final long[] keys = new long[MAX_NOTES];
        private final KeySorter sorter = new KeySorter(MAX_NOTES);
        private int count;
        private int dropped;
        private int cut;
        private int lastEnd;

        int noteCount() {
            return count;
        }

        int droppedCount() {
            return dropped;
        }

        int cutCount() {
            return cut;
        }

        int greatestEnd() {
            return lastEnd;
        }

        int noteNumber(int note, int what) {
            int index = note * NOTE_NUMBERS + what;
            return index >= 0 && index < rows.length ? rows[index] : 0;
        }

        private void putNoteNumber(int note, int what, int number) {
            int index = note * NOTE_NUMBERS + what;
            if (index >= 0 && index < rows.length) {
                rows[index] = number;
            }
        }

        /** The note that got the voice of a note, or NONE. */
        int cutterOf(int note) {
            return note >= 0 && note < cutters.length ? cutters[note] : NONE;
        }

        void collectNotes(Song song) {
            count = 0;
            for (int clip = 0; clip < song.clipCount(); clip++) {
                collectClip(song, clip);
            }
        }

        private void collectClip(Song song, int clip) {
            int pattern = song.clipNumber(clip, CLIP_PATTERN);
            int times = song.clipNumber(clip, CLIP_TIMES);
            int once = song.patterns.figure(pattern, NOTES);
            int length = song.patterns.figure(pattern, LENGTH);
            for (int index = 0; index < once && index < MAX_NOTES; index++) {
                int found = song.patterns.findNote(pattern, index);
                int tick = song.clipNumber(clip, CLIP_START) + found / ITEM_SLOTS;
                int source = clip * ITEM_SLOTS + found % ITEM_SLOTS;
                for (int time = 0; time < times; time++) {
                    int number = count + time * once + index;
                    putAt(sources, number, source);
                    putKey(number, (long) (tick + time * length) << NUMBER_BITS | number);
                }
            }
            count = Math.min(count + times * once, MAX_NOTES);
        }

        private void putKey(int index, long key) {
            if (index >= 0 && index < keys.length) {
                keys[index] = key;
            }
        }

        private long keyAt(int index) {
            return index >= 0 && index < keys.length ? keys[index] : 0;
        }

        /** Gives the collected notes their numbers, and all that does not hang on voices. */
        void numberNotes(Song song) {
            sorter.sort(keys, count);
            for (int note = 0; note < count; note++) {
                fillRow(song, note);
            }
        }

        private void fillRow(Song song, int note) {
            long key = keyAt(note);
            int source = numberAt(sources, (int) (key & NUMBER_MASK));
            int clip = source / ITEM_SLOTS;
            int slot = source % ITEM_SLOTS;
            int begin = (int) (key >> NUMBER_BITS);
            int end = begin + song.patterns.slotNumber(slot, SECOND);
            int pitch = song.patterns.slotNumber(slot, FIRST) + song.clipNumber(clip, CLIP_TRANSPOSITION);
            putNoteNumber(note, NOTE_CLIP, clip);
            putNoteNumber(note, BEGIN_TICK, begin);
            putNoteNumber(note, END_TICK, end);
            putNoteNumber(note, PITCH, Math.max(0, Math.min(MAX_PITCH, pitch)));
            putNoteNumber(note, VELOCITY, song.patterns.slotNumber(slot, THIRD));
            putNoteNumber(note, BEGIN_TIME, song.tempos.swungTime(begin));
            putNoteNumber(note, END_TIME, song.tempos.swungTime(end));
        }

        /** What orders the notes for the voices: time, priority, pitch, number. */
        private long turnKey(Song song, int note) {
            long key = noteNumber(note, BEGIN_TIME);
            key = key << PRIORITY_BITS | (MAX_PRIORITY - instrumentOf(song, note, PRIORITY));
            key = key << PITCH_BITS | noteNumber(note, PITCH);
            return key << NUMBER_BITS | note;
        }

        private int instrumentOf(Song song, int note, int what) {
            return song.instrumentNumber(song.clipNumber(noteNumber(note, NOTE_CLIP), CLIP_INSTRUMENT), what);
        }

        void shareVoices(Song song) {
            dropped = 0;
            cut = 0;
            lastEnd = 0;
            Arrays.fill(holders, NONE);
            Arrays.fill(cutters, NONE);
            for (int note = 0; note < count; note++) {
                putKey(note, turnKey(song, note));
            }
            sorter.sort(keys, count);
            for (int turn = 0; turn < count; turn++) {
                int note = (int) (keyAt(turn) & NUMBER_MASK);
                lastEnd = Math.max(lastEnd, noteNumber(note, END_TICK));
                int voice = freeVoice(song, note);
                if (voice == NONE) {
                    voice = stolenVoice(song, note);
                }
                giveVoice(song, note, voice);
            }
        }

        private int freeVoice(Song song, int note) {
            int now = noteNumber(note, BEGIN_TIME);
            for (int voice = 0; voice < song.voices; voice++) {
                int holder = numberAt(holders, voice);
                if (holder == NONE || noteNumber(holder, STOP_TIME) <= now) {
                    return voice;
                }
            }
            return NONE;
        }

        private int stolenVoice(Song song, int note) {
            int now = noteNumber(note, BEGIN_TIME);
            int priority = instrumentOf(song, note, PRIORITY);
            int best = NONE;
            int bestRank = 0;
            for (int voice = 0; voice < song.voices; voice++) {
                int holder = numberAt(holders, voice);
                if (instrumentOf(song, holder, PRIORITY) <= priority) {
                    // The lower its rank, the sooner a note loses its voice.
                    int rank = song.rule == 1 ? levelOf(song, holder, now)
                            : song.rule == 2 ? -noteNumber(holder, PITCH) : noteNumber(holder, BEGIN_TIME);
                    if (best == NONE || rank < bestRank) {
                        best = voice;
                        bestRank = rank;
                    }
                }
            }
            return best;
        }

        private void giveVoice(Song song, int note, int voice) {
            putNoteNumber(note, VOICE, voice);
            if (voice == NONE) {
                putNoteNumber(note, STOP_TIME, NONE);
                dropped++;
                return;
            }
            int now = noteNumber(note, BEGIN_TIME);
            int holder = numberAt(holders, voice);
            if (holder != NONE && noteNumber(holder, STOP_TIME) > now) {
                putNoteNumber(holder, STOP_TIME, now);
                putAt(cutters, holder, note);
                cut++;
            }
            putNoteNumber(note, STOP_TIME, noteNumber(note, END_TIME) + instrumentOf(song, note, RELEASE));
            putAt(holders, voice, note);
        }

        private boolean isHeard(int note, int time) {
            return noteNumber(note, BEGIN_TIME) <= time && time < noteNumber(note, STOP_TIME);
        }

        int levelOf(Song song, int note, int time) {
            if (!isHeard(note, time)) {
                return 0;
            }
            int instrument = song.clipNumber(noteNumber(note, NOTE_CLIP), CLIP_INSTRUMENT);
            int begin = noteNumber(note, BEGIN_TIME);
            int end = noteNumber(note, END_TIME);
            if (time < end) {
                return song.heldLevel(instrument, time - begin);
            }
            int release = song.instrumentNumber(instrument, RELEASE);
            if (release <= 0) {
                return 0;
            }
            return song.heldLevel(instrument, end - begin) * (release - (time - end)) / release;
        }

        int loudnessAt(Song song, int time) {
            int sum = 0;
            for (int note = 0; note < count; note++) {
                sum += levelOf(song, note, time) * noteNumber(note, VELOCITY);
            }
            return sum;
        }

        int voicesAt(int time) {
            int set = 0;
            for (int note = 0; note < count; note++) {
                if (isHeard(note, time)) {
                    set |= 1 << noteNumber(note, VOICE);
                }
            }
            return set;
        }

        int noteWith(int voice, int time) {
            for (int note = 0; note < count; note++) {
                if (noteNumber(note, VOICE) == voice && isHeard(note, time)) {
                    return note;
                }
            }
            return NONE;
        }

        int soundOf(int voice) {
            int sum = 0;
            for (int note = 0; note < count; note++) {
                if (noteNumber(note, VOICE) == voice) {
                    sum += noteNumber(note, STOP_TIME) - noteNumber(note, BEGIN_TIME);
                }
            }
            return sum;
        }
    }

    /** The events in their order, each as a key: its time, its kind, its note. */
    private static final class Events {
        private static final int KIND_BIT = 9;
        private static final int TIME_BIT = 10;
        private static final int NUMBER_MASK = 511;
        private static final int STOPS = 0;
        private static final int BEGINS = 1;

        private final long[] keys = new long[2 * MAX_NOTES];
        private final KeySorter sorter = new KeySorter(2 * MAX_NOTES);
        private int count;

        void list(Score score) {
            count = 0;
            for (int note = 0; note < score.noteCount(); note++) {
                if (score.noteNumber(note, VOICE) != NONE) {
                    putKey(score.noteNumber(note, BEGIN_TIME), BEGINS, note);
                    putKey(score.noteNumber(note, STOP_TIME), STOPS, note);
                }
            }
            sorter.sort(keys, count);
        }

        private void putKey(int time, int kind, int note) {
            if (count >= 0 && count < keys.length) {
                keys[count] = (long) time << TIME_BIT | kind << KIND_BIT | note;
                count++;
            }
        }

        private long keyAt(int index) {
            return index >= 0 && index < keys.length ? keys[index] : 0;
        }

        int size() {
            return count;
        }

        int timeAt(int index) {
            return (int) (keyAt(index) >> TIME_BIT);
        }

        int kindAt(int index) {
            return (int) (keyAt(index) >> KIND_BIT) & 1;
        }

        int noteAt(int index) {
            return (int) (keyAt(index) & NUMBER_MASK);
        }

        int firstFrom(int time) {
            for (int index = 0; index < count; index++) {
                if (timeAt(index) >= time) {
                    return index;
                }
            }
            return NONE;
        }

        int greatestNumberAtOnce() {
            int number = 0;
            int greatest = 0;
            for (int index = 0; index < count; index++) {
                // Stops come before begins, so that the number is never too great between two of one time.
                number += kindAt(index) == BEGINS ? 1 : -1;
                greatest = Math.max(greatest, number);
            }
            return greatest;
        }
    }

    /** Sorts keys by merging, with a spare row that is made once. */
    private static final class KeySorter {
        private final long[] spare;

        KeySorter(int room) {
            spare = new long[Math.max(0, room)];
        }

        void sort(long[] keys, int count) {
            int size = Math.min(count, Math.min(keys.length, spare.length));
            for (int width = 1; width < size; width *= 2) {
                for (int from = 0; from + width < size; from += 2 * width) {
                    merge(keys, from, from + width, Math.min(from + 2 * width, size));
                }
            }
        }

        private void merge(long[] keys, int from, int middle, int end) {
            if (from < 0 || from >= middle || middle >= end || end > keys.length || end > spare.length
                    || keys[middle - 1] <= keys[middle]) {
                return;
            }
            System.arraycopy(keys, from, spare, from, middle - from);
            int left = from;
            int right = middle;
            for (int target = from; target < end && left < middle; target++) {
                if (right >= end || spare[left] <= keys[right]) {
                    keys[target] = spare[left];
                    left++;
                } else {
                    keys[target] = keys[right];
                    right++;
                }
            }
        }
    }

    /** A row of characters with an end. */
    private static final class Line {
        private final char[] signs;
        private int length = 0;

        Line(int room) {
            signs = new char[Math.max(0, room)];
        }

        void empty() {
            length = 0;
        }

        int size() {
            return length;
        }

        boolean isFull() {
            return length >= signs.length;
        }

        void put(char sign) {
            if (length >= 0 && length < signs.length) {
                signs[length] = sign;
                length++;
            }
        }

        void putNumber(int number) {
            if (number >= 10) {
                put((char) ('0' + number / 10));
            }
            put((char) ('0' + number % 10));
        }

        /** The character at an index, or the one with the code 0, which no text holds, outside. */
        char signAt(int index) {
            return index >= 0 && index < length && index < signs.length ? signs[index] : (char) 0;
        }
    }

    /** Reads a text from the left; where it stops is the error position, as each step only takes what can be right. */
    private static final class Reader {
        // The shortest item with its comma has 3 characters.
        private static final int MAX_READ = MAX_INPUT / 3 + 1;
        private final int[] rows = new int[MAX_READ * ITEM_NUMBERS];
        private int count;
        private int at;

        boolean parse(Line line) {
            count = 0;
            at = 0;
            for (int k = 0; k < MAX_READ; k++) {
                if (!parseItem(line)) {
                    return false;
                }
                if (at >= line.size()) {
                    return true;
                }
                if (!take(line, ',')) {
                    return false;
                }
            }
            return false;
        }

        int errorIndex() {
            return at;
        }

        int itemCount() {
            return count;
        }

        int number(int index, int what) {
            return numberAt(rows, index * ITEM_NUMBERS + what);
        }

        private boolean parseItem(Line line) {
            if (take(line, 'n')) {
                return parseNote(line);
            }
            if (take(line, 'r')) {
                return parseRest(line);
            }
            return take(line, 'c') && parseCall(line);
        }

        private boolean parseNote(Line line) {
            int pitch = parseNumber(line, 0, MAX_PITCH);
            if (pitch == NONE || !take(line, '.')) {
                return false;
            }
            int length = parseNumber(line, 1, MAX_LENGTH);
            if (length == NONE || !take(line, '.')) {
                return false;
            }
            int velocity = parseNumber(line, 1, MAX_VELOCITY);
            return velocity != NONE && keep(NOTE, pitch, length, velocity);
        }

        private boolean parseRest(Line line) {
            int length = parseNumber(line, 1, MAX_LENGTH);
            return length != NONE && keep(REST, NONE, length, NONE);
        }

        private boolean parseCall(Line line) {
            int called = parseNumber(line, 0, PATTERNS - 1);
            if (called == NONE || !take(line, '*')) {
                return false;
            }
            int times = parseNumber(line, 1, MAX_TIMES);
            return times != NONE && keep(CALL, called, times, NONE);
        }

        private boolean keep(int kind, int first, int second, int third) {
            int base = count * ITEM_NUMBERS;
            putAt(rows, base + KIND, kind);
            putAt(rows, base + FIRST, first);
            putAt(rows, base + SECOND, second);
            putAt(rows, base + THIRD, third);
            count++;
            return true;
        }

        private boolean take(Line line, char sign) {
            if (line.signAt(at) != sign) {
                return false;
            }
            at++;
            return true;
        }

        /** Takes digits as long as the number can still be in its range; NONE if there is no such number. */
        private int parseNumber(Line line, int low, int high) {
            int number = digitAt(line);
            if (number < low || number > high || number == NONE) {
                return NONE;
            }
            at++;
            if (number == 0) {
                return 0;
            }
            for (int k = 0; k < MAX_INPUT; k++) {
                int digit = digitAt(line);
                if (digit == NONE || number * 10 + digit > high) {
                    return number;
                }
                number = number * 10 + digit;
                at++;
            }
            return number;
        }

        private int digitAt(Line line) {
            char sign = line.signAt(at);
            return sign >= '0' && sign <= '9' ? sign - '0' : NONE;
        }
    }
}

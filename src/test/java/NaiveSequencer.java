import java.util.ArrayList;
import java.util.Comparator;
import java.util.List;
import java.util.NoSuchElementException;
import java.util.TreeMap;
import java.util.regex.Matcher;
import java.util.regex.Pattern;

/**
 * The document once more, written as directly as the Java library allows and without regard to cost: the tests compare
 * PatternSequencer with it. It shares no code and no way of working with it.
 */
final class NaiveSequencer {
    private static final Pattern TEXT;
    static {
        String pitch = "(?:0|[1-9][0-9]?)";
        String length = "(?:1[0-6]|[1-9])";
        String item = "(?:n" + pitch + "\\." + length + "\\.[1-9]|r" + length + "|c[0-7]\\*[1-9])";
        TEXT = Pattern.compile(item + "(?:," + item + ")*");
    }

    /** What is remembered and saved. */
    private static final class State {
        final List<List<int[]>> patterns = new ArrayList<>();
        final List<int[]> clips = new ArrayList<>();
        final TreeMap<Integer, Integer> tempos = new TreeMap<>();
        final int[][] instruments = new int[4][];
        int swing = 0;
        int voices = 4;
        int rule = 0;

        State() {
            for (int k = 0; k < 8; k++) {
                patterns.add(new ArrayList<>());
            }
            tempos.put(0, 100);
            for (int k = 0; k < 4; k++) {
                instruments[k] = new int[] {0, 0, 100, 0, 5};
            }
        }

        State copy() {
            State other = new State();
            for (int k = 0; k < 8; k++) {
                for (int[] item : patterns.get(k)) {
                    other.patterns.get(k).add(item.clone());
                }
            }
            for (int[] clip : clips) {
                other.clips.add(clip.clone());
            }
            other.tempos.clear();
            other.tempos.putAll(tempos);
            for (int k = 0; k < 4; k++) {
                other.instruments[k] = instruments[k].clone();
            }
            other.swing = swing;
            other.voices = voices;
            other.rule = rule;
            return other;
        }
    }

    private static final class Note {
        int number;
        int clip;
        int begin;
        int end;
        int pitch;
        int velocity;
        int instrument;
        long from;
        long until;
        long stop;
        int voice = -1;
        Note cutter = null;
    }

    private State state = new State();
    private State saved = null;
    private final List<State> past = new ArrayList<>();
    private String input = "";
    private int error = -1;
    private List<Note> notes = null;
    private List<long[]> events = null;
    private int[] times = null;

    // ---- what follows from the state

    private long[] sizes(State s) {
        // Lengths, then numbers of notes; of doubles that never overflow nor lose a number that fits.
        double[] length = new double[8];
        double[] count = new double[8];
        for (int p = 0; p < 8; p++) {
            for (int[] item : s.patterns.get(p)) {
                length[p] += item[0] == 2 ? item[2] * length[item[1]] : item[2];
                count[p] += item[0] == 2 ? item[2] * count[item[1]] : item[0] == 0 ? 1 : 0;
            }
        }
        long[] both = new long[16];
        for (int p = 0; p < 8; p++) {
            both[p] = (long) length[p];
            both[8 + p] = (long) count[p];
        }
        return both;
    }

    private boolean isTooGreat(State s) {
        long[] sizes = sizes(s);
        double all = 0;
        for (int p = 0; p < 8; p++) {
            if (sizes[p] > 20000) {
                return true;
            }
        }
        for (int[] clip : s.clips) {
            if (clip[2] * sizes[clip[1]] > 20000) {
                return true;
            }
            all += clip[2] * sizes[8 + clip[1]];
        }
        return all > 300;
    }

    /** Appends the notes that a pattern plays from a tick on, and returns the tick behind it. */
    private int play(int pattern, int tick, List<int[]> into) {
        long[] sizes = sizes(state);
        if (sizes[8 + pattern] == 0) {
            return tick + (int) sizes[pattern];
        }
        int now = tick;
        for (int[] item : state.patterns.get(pattern)) {
            if (item[0] == 0) {
                into.add(new int[] {now, item[1], item[2], item[3]});
                now += item[2];
            } else if (item[0] == 1) {
                now += item[2];
            } else {
                for (int k = 0; k < item[2]; k++) {
                    now = play(item[1], now, into);
                }
            }
        }
        return now;
    }

    private int[] plainTimes() {
        if (times == null) {
            times = new int[30001];
            for (int t = 1; t <= 30000; t++) {
                times[t] = times[t - 1] + state.tempos.floorEntry(t - 1).getValue();
            }
        }
        return times;
    }

    private int swung(int tick) {
        int late = tick % 2 == 1 ? state.swing * state.tempos.floorEntry(tick).getValue() / 100 : 0;
        return plainTimes()[tick] + late;
    }

    private int priority(Note note) {
        return state.instruments[note.instrument][4];
    }

    private List<Note> notes() {
        if (notes != null) {
            return notes;
        }
        List<Note> all = new ArrayList<>();
        for (int c = 0; c < state.clips.size(); c++) {
            int[] clip = state.clips.get(c);
            List<int[]> found = new ArrayList<>();
            int tick = clip[0];
            for (int k = 0; k < clip[2]; k++) {
                tick = play(clip[1], tick, found);
            }
            for (int[] one : found) {
                Note note = new Note();
                note.clip = c;
                note.begin = one[0];
                note.end = one[0] + one[2];
                note.pitch = Math.max(0, Math.min(99, one[1] + clip[3]));
                note.velocity = one[3];
                note.instrument = clip[4];
                note.from = swung(note.begin);
                note.until = swung(note.end);
                all.add(note);
            }
        }
        all.sort(Comparator.comparingInt((Note n) -> n.begin));
        for (int k = 0; k < all.size(); k++) {
            all.get(k).number = k;
        }
        notes = all;
        giveVoices(all);
        return notes;
    }

    private void giveVoices(List<Note> all) {
        List<Note> turns = new ArrayList<>(all);
        turns.sort(Comparator.comparingLong((Note n) -> n.from).thenComparingInt(n -> -priority(n))
                .thenComparingInt(n -> n.pitch).thenComparingInt(n -> n.number));
        Note[] holders = new Note[state.voices];
        for (Note note : turns) {
            note.stop = -1;
            for (int v = 0; v < state.voices && note.voice < 0; v++) {
                if (holders[v] == null || holders[v].stop <= note.from) {
                    note.voice = v;
                }
            }
            if (note.voice < 0) {
                List<Integer> candidates = new ArrayList<>();
                for (int v = 0; v < state.voices; v++) {
                    if (priority(holders[v]) <= priority(note)) {
                        candidates.add(v);
                    }
                }
                if (candidates.isEmpty()) {
                    continue;
                }
                Comparator<Integer> byRule = Comparator.comparingLong((Integer v) ->
                        state.rule == 0 ? holders[v].from
                                : state.rule == 1 ? levelOf(holders[v], (int) note.from) : 99 - holders[v].pitch);
                candidates.sort(byRule.thenComparing(Comparator.naturalOrder()));
                note.voice = candidates.get(0);
                holders[note.voice].stop = note.from;
                holders[note.voice].cutter = note;
            }
            holders[note.voice] = note;
            note.stop = note.until + state.instruments[note.instrument][3];
        }
    }

    private boolean sounds(Note note, long time) {
        return note.voice >= 0 && note.from <= time && time < note.stop;
    }

    private long held(Note note, long d) {
        int[] e = state.instruments[note.instrument];
        if (d < e[0]) {
            return Math.floorDiv(100 * d, (long) e[0]);
        }
        if (d < e[0] + e[1]) {
            return 100 - Math.floorDiv((100 - e[2]) * (d - e[0]), (long) e[1]);
        }
        return e[2];
    }

    private int levelOf(Note note, int time) {
        if (!sounds(note, time)) {
            return 0;
        }
        if (time < note.until) {
            return (int) held(note, time - note.from);
        }
        int release = state.instruments[note.instrument][3];
        long r = time - note.until;
        return (int) Math.floorDiv(held(note, note.until - note.from) * (release - r), (long) release);
    }

    private List<long[]> events() {
        if (events != null) {
            return events;
        }
        List<long[]> all = new ArrayList<>();
        for (Note note : notes()) {
            if (note.voice >= 0) {
                all.add(new long[] {note.from, 1, note.number, note.voice});
                all.add(new long[] {note.stop, 0, note.number, note.voice});
            }
        }
        all.sort(Comparator.comparingLong((long[] e) -> e[0]).thenComparingLong(e -> e[1])
                .thenComparingLong(e -> e[2]));
        events = all;
        return all;
    }

    // ---- tests of the arguments

    private static void range(long number, long low, long high) {
        if (number < low || number > high) {
            throw new IllegalArgumentException();
        }
    }

    private static void bounds(int index, int size) {
        if (index < 0 || index >= size) {
            throw new IndexOutOfBoundsException();
        }
    }

    private void take(State next) {
        past.add(state);
        if (past.size() > 8) {
            past.remove(0);
        }
        become(next);
    }

    private void become(State next) {
        state = next;
        notes = null;
        events = null;
        times = null;
    }

    private int addItem(int pattern, int... item) {
        State next = state.copy();
        next.patterns.get(pattern).add(item);
        if (next.patterns.get(pattern).size() > 12 || isTooGreat(next)) {
            throw new IllegalStateException();
        }
        take(next);
        return next.patterns.get(pattern).size();
    }

    // ---- the face

    int clear() {
        int clips = state.clips.size();
        become(new State());
        past.clear();
        input = "";
        error = -1;
        return clips;
    }

    int addNote(int pattern, int pitch, int length, int velocity) {
        bounds(pattern, 8);
        range(pitch, 0, 99);
        range(length, 1, 16);
        range(velocity, 1, 9);
        return addItem(pattern, 0, pitch, length, velocity);
    }

    int addRest(int pattern, int length) {
        bounds(pattern, 8);
        range(length, 1, 16);
        return addItem(pattern, 1, -1, length, -1);
    }

    int addCall(int pattern, int called, int times) {
        bounds(pattern, 8);
        range(called, 0, pattern - 1);
        range(times, 1, 9);
        return addItem(pattern, 2, called, times, -1);
    }

    int removeItem(int pattern, int index) {
        bounds(pattern, 8);
        bounds(index, state.patterns.get(pattern).size());
        State next = state.copy();
        next.patterns.get(pattern).remove(index);
        take(next);
        return next.patterns.get(pattern).size();
    }

    private int depth(int pattern, int[] known) {
        if (known[pattern] == 0) {
            known[pattern] = 1;
            for (int[] item : state.patterns.get(pattern)) {
                if (item[0] == 2) {
                    known[pattern] = Math.max(known[pattern], 1 + depth(item[1], known));
                }
            }
        }
        return known[pattern];
    }

    private int calledSetByClosure(int pattern) {
        int set = 0;
        for (int round = 0; round < 9; round++) {
            for (int p = 0; p < 8; p++) {
                if (p == pattern || (set >> p & 1) == 1) {
                    for (int[] item : state.patterns.get(p)) {
                        set |= item[0] == 2 ? 1 << item[1] : 0;
                    }
                }
            }
        }
        return set;
    }

    int pattern(int pattern, int what) {
        bounds(pattern, 8);
        range(what, 0, 4);
        switch (what) {
            case 0: return state.patterns.get(pattern).size();
            case 1: return (int) sizes(state)[pattern];
            case 2: return (int) sizes(state)[8 + pattern];
            case 3: return calledSetByClosure(pattern);
            default: return depth(pattern, new int[8]);
        }
    }

    int item(int pattern, int index, int what) {
        bounds(pattern, 8);
        bounds(index, state.patterns.get(pattern).size());
        range(what, 0, 3);
        return state.patterns.get(pattern).get(index)[what];
    }

    int played(int pattern, int index, int what) {
        bounds(pattern, 8);
        range(what, 0, 3);
        List<int[]> found = new ArrayList<>();
        play(pattern, 0, found);
        if (index < 0 || index >= found.size()) {
            throw new NoSuchElementException();
        }
        return found.get(index)[what];
    }

    int addClip(int start, int pattern, int times, int transposition, int instrument) {
        range(start, 0, 9999);
        range(pattern, 0, 7);
        range(times, 1, 9);
        range(transposition, -50, 50);
        range(instrument, 0, 3);
        State next = state.copy();
        next.clips.add(new int[] {start, pattern, times, transposition, instrument});
        if (next.clips.size() > 12 || isTooGreat(next)) {
            throw new IllegalStateException();
        }
        take(next);
        return next.clips.size() - 1;
    }

    int removeClip(int clip) {
        bounds(clip, state.clips.size());
        State next = state.copy();
        next.clips.remove(clip);
        take(next);
        return next.clips.size();
    }

    int moveClip(int clip, int start) {
        bounds(clip, state.clips.size());
        range(start, 0, 9999);
        State next = state.copy();
        int previous = next.clips.get(clip)[0];
        next.clips.get(clip)[0] = start;
        take(next);
        return previous;
    }

    int clip(int clip, int what) {
        bounds(clip, state.clips.size());
        range(what, 0, 6);
        int[] one = state.clips.get(clip);
        return what < 5 ? one[what] : (int) (one[2] * sizes(state)[(what == 5 ? 0 : 8) + one[1]]);
    }

    int count(int what) {
        range(what, 0, 8);
        switch (what) {
            case 0: return state.clips.size();
            case 1: return notes().size();
            case 2: return (int) notes().stream().filter(n -> n.voice < 0).count();
            case 3: return (int) notes().stream().filter(n -> n.cutter != null).count();
            case 4: return state.voices;
            case 5: return state.tempos.size();
            case 6: return state.swing;
            case 7: return state.rule;
            default: return notes().stream().mapToInt(n -> n.end).max().orElse(0);
        }
    }

    int note(int note, int what) {
        bounds(note, notes().size());
        range(what, 0, 8);
        Note n = notes().get(note);
        long[] all = {n.clip, n.begin, n.end, n.pitch, n.velocity, n.from, n.until, n.stop, n.voice};
        return (int) all[what];
    }

    boolean isCut(int note) {
        bounds(note, notes().size());
        return notes().get(note).cutter != null;
    }

    int cutBy(int note) {
        if (!isCut(note)) {
            throw new NoSuchElementException();
        }
        return notes().get(note).cutter.number;
    }

    int setTempo(int tick, int milliseconds) {
        range(tick, 0, 30000);
        range(milliseconds, 1, 1000);
        State next = state.copy();
        next.tempos.put(tick, milliseconds);
        if (next.tempos.size() > 10) {
            throw new IllegalStateException();
        }
        take(next);
        return next.tempos.size();
    }

    int removeTempo(int tick) {
        if (tick == 0) {
            throw new IllegalArgumentException();
        }
        State next = state.copy();
        if (next.tempos.remove(tick) == null) {
            throw new NoSuchElementException();
        }
        take(next);
        return next.tempos.size();
    }

    int tempo(int tick) {
        range(tick, 0, 30000);
        return state.tempos.floorEntry(tick).getValue();
    }

    int place(int index) {
        if (index < 0 || index >= state.tempos.size()) {
            throw new NoSuchElementException();
        }
        return new ArrayList<>(state.tempos.keySet()).get(index);
    }

    int setSwing(int swing) {
        range(swing, 0, 50);
        State next = state.copy();
        next.swing = swing;
        int previous = state.swing;
        take(next);
        return previous;
    }

    int timeOf(int tick, boolean isPlain) {
        range(tick, 0, 30000);
        return isPlain ? plainTimes()[tick] : swung(tick);
    }

    int tickAt(int time) {
        range(time, 0, 40000000);
        int last = 0;
        for (int t = 0; t <= 30000; t++) {
            last = plainTimes()[t] <= time ? t : last;
        }
        return last;
    }

    int setEnvelope(int instrument, int attack, int decay, int sustain, int release) {
        bounds(instrument, 4);
        range(attack, 0, 5000);
        range(decay, 0, 5000);
        range(sustain, 0, 100);
        range(release, 0, 5000);
        State next = state.copy();
        next.instruments[instrument] = new int[] {attack, decay, sustain, release, state.instruments[instrument][4]};
        take(next);
        int same = 0;
        for (int[] one : next.instruments) {
            same += one[0] == attack && one[1] == decay && one[2] == sustain && one[3] == release ? 1 : 0;
        }
        return same;
    }

    int setPriority(int instrument, int priority) {
        bounds(instrument, 4);
        range(priority, 0, 9);
        State next = state.copy();
        next.instruments[instrument][4] = priority;
        int previous = state.instruments[instrument][4];
        take(next);
        return previous;
    }

    int instrument(int instrument, int what) {
        bounds(instrument, 4);
        range(what, 0, 5);
        return what < 5 ? state.instruments[instrument][what]
                : (int) state.clips.stream().filter(c -> c[4] == instrument).count();
    }

    int setVoices(int voices) {
        range(voices, 1, 8);
        State next = state.copy();
        next.voices = voices;
        int previous = state.voices;
        take(next);
        return previous;
    }

    int setRule(int rule) {
        range(rule, 0, 2);
        State next = state.copy();
        next.rule = rule;
        int previous = state.rule;
        take(next);
        return previous;
    }

    int level(int note, int time) {
        bounds(note, notes().size());
        range(time, 0, 40000000);
        return levelOf(notes().get(note), time);
    }

    int mix(int time) {
        range(time, 0, 40000000);
        return notes().stream().mapToInt(n -> levelOf(n, time) * n.velocity).sum();
    }

    int sounding(int time) {
        range(time, 0, 40000000);
        return notes().stream().filter(n -> sounds(n, time)).mapToInt(n -> 1 << n.voice).reduce(0, (a, b) -> a | b);
    }

    int noteOn(int voice, int time) {
        bounds(voice, state.voices);
        range(time, 0, 40000000);
        return notes().stream().filter(n -> n.voice == voice && sounds(n, time)).mapToInt(n -> n.number).findFirst()
                .orElseThrow(NoSuchElementException::new);
    }

    int polyphony() {
        int greatest = 0;
        for (Note at : notes()) {
            int now = 0;
            for (Note other : notes()) {
                now += sounds(other, at.from) ? 1 : 0;
            }
            greatest = Math.max(greatest, now);
        }
        return greatest;
    }

    int busy(int voice) {
        bounds(voice, state.voices);
        return notes().stream().filter(n -> n.voice == voice).mapToInt(n -> (int) (n.stop - n.from)).sum();
    }

    double lostShare() {
        if (notes().isEmpty()) {
            throw new ArithmeticException();
        }
        return (double) (count(2) + count(3)) / (double) notes().size();
    }

    int eventCount() {
        return events().size();
    }

    int event(int index, int what) {
        bounds(index, events().size());
        range(what, 0, 3);
        return (int) events().get(index)[what];
    }

    int eventFrom(int time) {
        range(time, 0, 40000000);
        for (int k = 0; k < events().size(); k++) {
            if (events().get(k)[0] >= time) {
                return k;
            }
        }
        throw new NoSuchElementException();
    }

    int append(char character) {
        range(character, 32, 126);
        if (input.length() == 60) {
            throw new IllegalStateException();
        }
        input += character;
        return input.length();
    }

    int read(int pattern) {
        String text = input;
        input = "";
        bounds(pattern, 8);
        if (!TEXT.matcher(text).matches()) {
            error = text.length();
            for (int k = text.length() - 1; k >= 0; k--) {
                Matcher start = TEXT.matcher(text.substring(0, k + 1));
                error = !start.matches() && !start.hitEnd() ? k : error;
            }
            throw new IllegalArgumentException();
        }
        State next = state.copy();
        int added = 0;
        for (String item : text.split(",")) {
            String[] parts = item.substring(1).split("[.*]");
            int first = Integer.parseInt(parts[0]);
            switch (item.charAt(0)) {
                case 'n':
                    next.patterns.get(pattern).add(new int[] {0, first, Integer.parseInt(parts[1]),
                        Integer.parseInt(parts[2])});
                    break;
                case 'r':
                    next.patterns.get(pattern).add(new int[] {1, -1, first, -1});
                    break;
                default:
                    if (first >= pattern) {
                        throw new IllegalStateException();
                    }
                    next.patterns.get(pattern).add(new int[] {2, first, Integer.parseInt(parts[1]), -1});
            }
            added++;
            if (next.patterns.get(pattern).size() > 12 || isTooGreat(next)) {
                throw new IllegalStateException();
            }
        }
        take(next);
        return added;
    }

    int errorPosition() {
        if (error < 0) {
            throw new NoSuchElementException();
        }
        return error;
    }

    int describe(int pattern, int index) {
        bounds(pattern, 8);
        List<String> parts = new ArrayList<>();
        for (int[] i : state.patterns.get(pattern)) {
            parts.add(i[0] == 0 ? "n" + i[1] + "." + i[2] + "." + i[3] : i[0] == 1 ? "r" + i[2]
                    : "c" + i[1] + "*" + i[2]);
        }
        String text = String.join(",", parts);
        if (index == -1) {
            return text.length();
        }
        if (index < 0 || index >= text.length()) {
            throw new NoSuchElementException();
        }
        return text.charAt(index);
    }

    int undo() {
        if (past.isEmpty()) {
            throw new NoSuchElementException();
        }
        become(past.remove(past.size() - 1));
        return past.size();
    }

    int save() {
        saved = state.copy();
        return state.clips.size();
    }

    int restore() {
        if (saved == null) {
            throw new IllegalStateException();
        }
        become(saved.copy());
        past.clear();
        return state.clips.size();
    }
}

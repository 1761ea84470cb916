import java.lang.reflect.InvocationTargetException;
import java.lang.reflect.Method;
import java.util.ArrayList;
import java.util.Arrays;
import java.util.HashMap;
import java.util.List;
import java.util.Map;

/** Runs of many calls, the same ones each time, on PatternSequencer and on NaiveSequencer, whose answers must agree. */
public final class ComparisonTest {
    private static final int RUNS = 600;
    private static final int CALLS = 512;
    private static final String[] QUESTIONS = {"pattern", "item", "played", "clip", "count", "note", "isCut", "cutBy",
        "tempo", "place", "timeOf", "tickAt", "instrument", "level", "mix", "sounding", "noteOn", "polyphony", "busy",
        "lostShare", "eventCount", "event", "eventFrom", "errorPosition", "describe"};
    private static final String[] CHANGES = {"addNote", "addRest", "addCall", "removeItem", "addClip", "removeClip",
        "moveClip", "setTempo", "removeTempo", "setSwing", "setEnvelope", "setPriority", "setVoices", "setRule"};
    private static final Map<String, Method> REAL = new HashMap<>();
    private static final Map<String, Method> NAIVE = new HashMap<>();
    private static final Map<String, int[]> OUTCOMES = new HashMap<>();

    private static long seed;
    private static int wrong = 0;

    private final PatternSequencer real = new PatternSequencer();
    private final NaiveSequencer naive = new NaiveSequencer();
    private final List<String> told = new ArrayList<>();
    private final int mood;
    private int calls = 0;
    private boolean isWrong = false;

    private ComparisonTest(int mood) {
        this.mood = mood;
    }

    // A generator of one's own, so that every run is the same on every machine.
    private static int random(int bound) {
        seed = seed * 6364136223846793005L + 1442695040888963407L;
        return (int) Math.floorMod(seed >>> 33, (long) bound);
    }

    private static boolean chance(int percent) {
        return random(100) < percent;
    }

    private static int between(int low, int high) {
        int kind = random(100);
        if (kind < 3) {
            return low - 1;
        }
        if (kind < 6) {
            return high + 1;
        }
        if (kind < 7) {
            return new int[] {Integer.MIN_VALUE, Integer.MAX_VALUE, -1, 0}[random(4)];
        }
        if (kind < 15) {
            return low;
        }
        if (kind < 23) {
            return high;
        }
        return high < low ? low : low + random(high - low + 1);
    }

    private static Object outcome(Method method, Object on, Object[] arguments) {
        try {
            return method.invoke(on, arguments);
        } catch (InvocationTargetException e) {
            return e.getCause().getClass().getSimpleName();
        } catch (IllegalAccessException e) {
            throw new AssertionError(e);
        }
    }

    private void call(String name, Object... arguments) {
        if (calls >= CALLS || isWrong) {
            return;
        }
        calls++;
        Object due = outcome(NAIVE.get(name), naive, arguments);
        Object got = outcome(REAL.get(name), real, arguments);
        told.add(name + Arrays.toString(arguments) + " answered " + got);
        int[] tally = OUTCOMES.computeIfAbsent(name, k -> new int[2]);
        tally[due instanceof String ? 1 : 0]++;
        if (!due.equals(got)) {
            isWrong = true;
            wrong++;
            System.out.println("mood " + mood + ", the last call should answer " + due + ":");
            System.out.println("  " + String.join("\n  ", told));
        }
    }

    private int notes() {
        return naive.count(1);
    }

    private int someCutNote() {
        int first = random(Math.max(1, notes()));
        for (int k = 0; k < notes(); k++) {
            if (naive.isCut((first + k) % notes())) {
                return (first + k) % notes();
            }
        }
        return first;
    }

    private int someTime() {
        if (chance(10)) {
            return between(0, 40000000);
        }
        if (notes() == 0) {
            return random(5000);
        }
        int time = naive.note(random(notes()), 5 + random(3));
        return time + (chance(50) ? random(3) - 1 : random(2000) - 500);
    }

    private int someTick() {
        return chance(20) ? between(0, 30000) : mood == 1 ? random(60) : random(3000);
    }

    private int somePattern() {
        return mood == 1 ? between(0, 3) : between(0, 7);
    }

    private int someStage() {
        return chance(40) ? 0 : chance(60) ? random(600) : between(0, 5000);
    }

    private void change() {
        String name = CHANGES[chance(55) ? random(5) : random(CHANGES.length)];
        int pattern = somePattern();
        int count = pattern >= 0 && pattern < 8 ? naive.pattern(pattern, 0) : 0;
        if (count > 10 && chance(90) && name.startsWith("add") && !name.equals("addClip")) {
            name = "removeItem";
        }
        switch (name) {
            case "addNote": call(name, pattern, between(0, 99), between(1, 16), between(1, 9)); break;
            case "addRest": call(name, pattern, between(1, 16)); break;
            case "addCall":
                call(name, pattern, between(0, pattern - 1), chance(50) && mood == 1 ? 1 : between(1, 9)); break;
            case "removeItem": if (chance(40)) call(name, pattern, between(0, count - 1)); break;
            case "addClip":
                call(name, mood == 1 ? random(30) : between(0, 9999), somePattern(), chance(60) ? 1 : between(1, 9),
                        between(-50, 50), between(0, 3)); break;
            case "removeClip": if (chance(50)) call(name, between(0, naive.count(0) - 1)); break;
            case "moveClip":
                call(name, between(0, naive.count(0) - 1), mood == 1 ? random(30) : between(0, 9999)); break;
            case "setTempo": call(name, someTick(), between(1, 1000)); break;
            case "removeTempo":
                call(name, chance(70) && naive.count(5) > 1 ? naive.place(1 + random(naive.count(5) - 1)) : someTick());
                break;
            case "setSwing": call(name, between(0, 50)); break;
            case "setEnvelope":
                call(name, between(0, 3), someStage(), someStage(), chance(30) ? 100 : between(0, 100), someStage());
                break;
            case "setPriority": call(name, between(0, 3), chance(60) ? 5 + random(2) : between(0, 9)); break;
            case "setVoices": call(name, between(1, mood == 1 && chance(70) ? 4 : 8)); break;
            default: call(name, between(0, 2)); break;
        }
    }

    private void ask() {
        String name = QUESTIONS[random(QUESTIONS.length)];
        int pattern = somePattern();
        boolean isThere = pattern >= 0 && pattern < 8;
        int note = chance(40) ? someCutNote() : between(0, notes() - 1);
        switch (name) {
            case "pattern": call(name, pattern, between(0, 4)); break;
            case "item": call(name, pattern, between(0, isThere ? naive.pattern(pattern, 0) - 1 : 0), between(0, 3)); break;
            case "played": call(name, pattern, between(0, isThere ? naive.pattern(pattern, 2) - 1 : 0), between(0, 3)); break;
            case "clip": call(name, between(0, naive.count(0) - 1), between(0, 6)); break;
            case "count": call(name, between(0, 8)); break;
            case "note": call(name, note, chance(40) ? 7 + random(2) : between(0, 8)); break;
            case "isCut": case "cutBy": call(name, note); break;
            case "tempo": call(name, someTick()); break;
            case "place": call(name, between(0, naive.count(5) - 1)); break;
            case "timeOf": call(name, someTick(), chance(40)); break;
            case "tickAt": call(name, someTime()); break;
            case "instrument": call(name, between(0, 3), between(0, 5)); break;
            case "level": call(name, note, someTime()); break;
            case "mix": case "sounding": case "eventFrom": call(name, someTime()); break;
            case "noteOn": call(name, between(0, naive.count(4) - 1), someTime()); break;
            case "busy": call(name, between(0, naive.count(4) - 1)); break;
            case "event": call(name, between(0, naive.eventCount() - 1), between(0, 3)); break;
            case "describe": call(name, pattern, between(-1, isThere ? naive.describe(pattern, -1) - 1 : 0)); break;
            default: call(name); break;
        }
    }

    private String someItem() {
        switch (random(3)) {
            case 0: return "n" + random(100) + "." + (1 + random(16)) + "." + (1 + random(9));
            case 1: return "r" + (1 + random(16));
            default: return "c" + random(chance(80) ? 3 : 8) + "*" + (1 + random(9));
        }
    }

    private void readText() {
        StringBuilder text = new StringBuilder(chance(95) ? someItem() : "");
        for (int k = random(chance(90) ? 4 : 14); k > 0; k--) {
            text.append(',').append(someItem());
        }
        String signs = "nrc,.*0123456789 -x";
        while (chance(40) && text.length() > 0) {
            int at = random(text.length());
            char sign = signs.charAt(random(signs.length()));
            switch (random(4)) {
                case 0: text.setCharAt(at, sign); break;
                case 1: text.insert(at, sign); break;
                case 2: text.deleteCharAt(at); break;
                default: text.setLength(at + 1); break;
            }
        }
        for (int k = 0; k < text.length() && k < 61; k++) {
            call("append", text.charAt(k));
        }
        if (chance(5)) {
            call("append", (char) new int[] {0, 31, 32, 126, 127, 255, 65535}[random(7)]);
        }
        call("read", between(0, 7));
        call("errorPosition");
    }

    private void step() {
        int kind = random(100);
        if (kind < (calls < 120 ? 75 : 30)) {
            change();
        } else if (kind < 91) {
            ask();
        } else if (kind < (mood == 2 ? 96 : 92)) {
            readText();
        } else if (kind < 97) {
            for (int k = random(chance(10) ? 10 : 3); k >= 0; k--) {
                call("undo");
            }
        } else if (kind < 98) {
            call("save");
        } else if (kind < 99) {
            if (chance(50)) {
                call("restore");
            }
        } else if (chance(20)) {
            call("clear");
        }
    }

    private void run() {
        while (calls < CALLS && !isWrong) {
            step();
        }
    }

    public static void main(String[] arguments) {
        for (Method method : NaiveSequencer.class.getDeclaredMethods()) {
            NAIVE.put(method.getName(), method);
        }
        for (Method method : PatternSequencer.class.getDeclaredMethods()) {
            if (java.lang.reflect.Modifier.isPublic(method.getModifiers())) {
                REAL.put(method.getName(), method);
            }
        }
        int runs = arguments.length > 0 ? Integer.parseInt(arguments[0]) : RUNS;
        for (int run = 0; run < runs && wrong < 3; run++) {
            seed = 1000 + run;
            new ComparisonTest(run % 3).run();
        }
        for (String name : REAL.keySet()) {
            int[] tally = OUTCOMES.getOrDefault(name, new int[2]);
            if (arguments.length > 0) {
                System.out.println(name + ": " + tally[0] + " answers, " + tally[1] + " exceptions");
            }
            if (tally[0] == 0) {
                wrong++;
                System.out.println("never answered: " + name);
            }
        }
        System.out.println(wrong == 0 ? "comparison: all answers are as due" : "comparison: " + wrong + " runs are wrong");
        if (wrong != 0) {
            System.exit(1);
        }
    }
}

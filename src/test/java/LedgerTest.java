import java.lang.reflect.Method;
import java.nio.file.Files;
import java.nio.file.Path;
import java.util.ArrayList;
import java.util.LinkedHashMap;
import java.util.List;
import java.util.Map;
import java.util.Set;
import java.util.regex.Matcher;
import java.util.regex.Pattern;

/** That each sentence of the document has a test of its own, and that each test's sentence stands in the document. */
public final class LedgerTest {
    private static final Path DOCUMENT = Path.of("../shared/DOC.md");
    private static final Class<?>[] TESTS = {SongDescriptionTest.class, SoundDescriptionTest.class,
        TextDescriptionTest.class, PatternSentencesTest.class, ClipSentencesTest.class, SoundSentencesTest.class,
        TextSentencesTest.class};
    // Sentences that only name what is told in another one of the same promise.
    private static final Set<String> PLAIN = Set.of("Returns the number.", "Returns the count.", "Returns the tick.",
        "Returns the milliseconds.", "Returns the time in milliseconds.", "Returns the sum.", "Returns the share.",
        "Returns the set of voices.", "Returns the number of the note.", "Returns the number of the other note.",
        "Returns the index of the event.", "Returns the error position.", "Returns a count.",
        "Returns a number of a note.", "Returns a number of a clip.", "Returns a number of an item.",
        "Returns a number of an event.", "Returns a number of an instrument.",
        "Returns a number of a note that a pattern plays.", "Returns the level of a note at a time.",
        "Returns the code of the character, or the length.");

    /** The sentences of each section, in their order; one is the description's headings, or a promise. */
    private static Map<String, List<String>> sentences(String document) {
        Map<String, List<String>> all = new LinkedHashMap<>();
        String text = document.replace("`", "");
        add(all, "What it is", part(text, "undo and saving.", "## The public face"));
        String description = part(text, "## Description", "The constructor and the methods follow");
        for (String paragraph : description.split("\n\n")) {
            String line = paragraph.replace('\n', ' ').trim();
            int end = line.indexOf(". ");
            if (end > 0) {
                add(all, line.substring(0, end), line.substring(end + 2));
            }
        }
        Matcher promises = Pattern.compile("## (Promise \\d+): [^\n]*\n\n[^\n]*\n(.*?)(?=\n## )", Pattern.DOTALL)
                .matcher(text);
        while (promises.find()) {
            for (String paragraph : promises.group(2).split("\n\n|\n(?=- )")) {
                add(all, promises.group(1), paragraph);
            }
        }
        return all;
    }

    private static String part(String text, String from, String to) {
        int start = text.indexOf(from);
        int end = text.indexOf(to);
        return start < 0 || end < start ? "" : text.substring(start + from.length(), end);
    }

    private static void add(Map<String, List<String>> all, String section, String paragraph) {
        String line = paragraph.replace('\n', ' ').trim();
        if (line.startsWith("- ")) {
            line = line.substring(2);
        }
        for (String sentence : line.split("(?<=\\.) ")) {
            if (!sentence.isBlank() && !sentence.startsWith("----")) {
                all.computeIfAbsent(section, k -> new ArrayList<>()).add(sentence.trim());
            }
        }
    }

    /** Takes the sentence that a test is about off the list of those without one; false if there is not just one. */
    private static boolean find(Map<String, List<String>> all, Set<String> without, String tested) {
        int colon = tested.indexOf(": ");
        String section = colon < 0 ? "" : tested.substring(0, colon);
        String part = tested.substring(colon + 2);
        List<String> found = new ArrayList<>();
        for (String sentence : all.getOrDefault(section, List.of())) {
            if (sentence.contains(part)) {
                found.add(sentence);
            }
        }
        for (String sentence : found) {
            without.remove(section + ": " + sentence);
        }
        return found.size() == 1;
    }

    public static void main(String[] arguments) throws Exception {
        if (!Files.isReadable(DOCUMENT)) {
            System.out.println("ledger: there is no document here to look into");
            return;
        }
        Map<String, List<String>> all = sentences(Files.readString(DOCUMENT));
        Set<String> without = new java.util.LinkedHashSet<>();
        all.forEach((section, list) -> list.stream().filter(s -> !PLAIN.contains(s))
                .forEach(s -> without.add(section + ": " + s)));
        int sentences = without.size();
        int wrong = 0;
        for (Class<?> tests : TESTS) {
            for (Method method : tests.getDeclaredMethods()) {
                Sentence sentence = method.getAnnotation(Sentence.class);
                if (sentence != null && !find(all, without, sentence.value())) {
                    wrong++;
                    System.out.println("ledger: not one sentence of the document: " + sentence.value());
                }
            }
        }
        for (String sentence : without) {
            wrong++;
            System.out.println("ledger: no test for: " + sentence);
        }
        System.out.println(wrong == 0 ? "ledger: all " + sentences + " sentences are tested" : "ledger: " + wrong + " faults");
        if (wrong != 0 || sentences == 0) {
            System.exit(1);
        }
    }
}

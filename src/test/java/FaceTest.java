import java.lang.reflect.Constructor;
import java.lang.reflect.Field;
import java.lang.reflect.Method;
import java.lang.reflect.Modifier;
import java.nio.file.Files;
import java.nio.file.Path;
import java.util.Arrays;
import java.util.HashSet;
import java.util.Set;
import java.util.TreeSet;
import java.util.regex.Matcher;
import java.util.regex.Pattern;

/** The face of the class against that of the document, and those rules of LANGUAGE.md that are easily seen. */
public final class FaceTest {
    // The document's face; behind the colon what a method throws, in the document's order.
    private static final String[] FACE = {
        "int clear():",
        "int addNote(int,int,int,int): I,A,S",
        "int addRest(int,int): I,A,S",
        "int addCall(int,int,int): I,A,S",
        "int removeItem(int,int): I",
        "int pattern(int,int): I,A",
        "int item(int,int,int): I,A",
        "int played(int,int,int): I,A,N",
        "int addClip(int,int,int,int,int): A,S",
        "int removeClip(int): I",
        "int moveClip(int,int): I,A",
        "int clip(int,int): I,A",
        "int count(int): A",
        "int note(int,int): I,A",
        "boolean isCut(int): I",
        "int cutBy(int): I,N",
        "int setTempo(int,int): A,S",
        "int removeTempo(int): A,N",
        "int tempo(int): A",
        "int place(int): N",
        "int setSwing(int): A",
        "int timeOf(int,boolean): A",
        "int tickAt(int): A",
        "int setEnvelope(int,int,int,int,int): I,A",
        "int setPriority(int,int): I,A",
        "int instrument(int,int): I,A",
        "int setVoices(int): A",
        "int setRule(int): A",
        "int level(int,int): I,A",
        "int mix(int): A",
        "int sounding(int): A",
        "int noteOn(int,int): I,A,N",
        "int polyphony():",
        "int busy(int): I",
        "double lostShare(): D",
        "int eventCount():",
        "int event(int,int): I,A",
        "int eventFrom(int): A,N",
        "int append(char): A,S",
        "int read(int): I,A,S",
        "int errorPosition(): N",
        "int describe(int,int): I,N",
        "int undo(): N",
        "int save():",
        "int restore(): S",
    };

    private static int wrong = 0;

    private static void due(boolean isRight, String what) {
        if (!isRight) {
            wrong++;
            System.out.println("face: " + what);
        }
    }

    private static Set<String> documentedFace() {
        Set<String> found = new TreeSet<>();
        for (String line : FACE) {
            found.add(line.trim());
        }
        return found;
    }

    private static String letter(Class<?> exception) {
        switch (exception.getSimpleName()) {
            case "IndexOutOfBoundsException": return "I";
            case "IllegalArgumentException": return "A";
            case "IllegalStateException": return "S";
            case "NoSuchElementException": return "N";
            case "ArithmeticException": return "D";
            default: return exception.getSimpleName();
        }
    }

    private static String told(Method method) {
        String kinds = String.join(",", Arrays.stream(method.getParameterTypes()).map(Class::getSimpleName).toList());
        String thrown = String.join(",", Arrays.stream(method.getExceptionTypes()).map(FaceTest::letter).toList());
        String start = method.getReturnType().getSimpleName() + " " + method.getName() + "(" + kinds + "): ";
        return (start + thrown).trim();
    }

    private static void checkFace() {
        Class<?> face = PatternSequencer.class;
        due(Modifier.isFinal(face.getModifiers()) && Modifier.isPublic(face.getModifiers()), "not public and final");
        Set<String> found = new TreeSet<>();
        for (Method method : face.getDeclaredMethods()) {
            if (Modifier.isPublic(method.getModifiers())) {
                found.add(told(method));
            } else {
                due(Modifier.isPrivate(method.getModifiers()), "visible method " + method.getName());
            }
        }
        Set<String> documented = documentedFace();
        due(documented.size() == 45, "the document's face has " + documented.size() + " methods");
        due(documented.equals(found), "the face is " + found + ", due is " + documented);
        Constructor<?>[] constructors = face.getDeclaredConstructors();
        due(constructors.length == 1 && constructors[0].getParameterCount() == 0
                && Modifier.isPublic(constructors[0].getModifiers()), "not one public constructor");
    }

    private static void checkMembers() {
        Set<String> publicNames = new HashSet<>();
        for (Method method : PatternSequencer.class.getDeclaredMethods()) {
            if (Modifier.isPublic(method.getModifiers())) {
                publicNames.add(method.getName());
            }
        }
        for (Field field : PatternSequencer.class.getDeclaredFields()) {
            due(Modifier.isPrivate(field.getModifiers()), "visible field " + field.getName());
        }
        checkOwn(PatternSequencer.class);
        Class<?>[] inside = PatternSequencer.class.getDeclaredClasses();
        due(inside.length <= 12, inside.length + " classes inside");
        for (Class<?> one : inside) {
            due(Modifier.isStatic(one.getModifiers()), one + " is not static");
            checkOwn(one);
            for (Method method : one.getDeclaredMethods()) {
                due(!publicNames.contains(method.getName()), one + " has a method named " + method.getName());
            }
        }
        for (Method method : PatternSequencer.class.getDeclaredMethods()) {
            due(Modifier.isPublic(method.getModifiers()) || !publicNames.contains(method.getName()),
                    "a private method named " + method.getName());
        }
    }

    private static void checkOwn(Class<?> one) {
        int fields = 0;
        for (Field field : one.getDeclaredFields()) {
            boolean isStatic = Modifier.isStatic(field.getModifiers());
            due(!isStatic || Modifier.isFinal(field.getModifiers()), "static field not final: " + field);
            fields += isStatic ? 0 : 1;
        }
        due(fields <= 20, one + " has " + fields + " fields");
        for (Method method : one.getDeclaredMethods()) {
            due(method.getParameterCount() <= 7, method + " takes too many parameters");
            due(!method.isSynthetic() && !Modifier.isSynchronized(method.getModifiers()), method + " is not plain");
        }
    }

    private static void checkText() throws Exception {
        String source = Files.readString(Path.of("src/main/java/PatternSequencer.java"));
        String code = source.replaceAll("(?s)/\\*.*?\\*/", "").replaceAll("//[^\n]*", "").replaceAll("\"[^\"]*\"", "\"\"");
        for (String word : new String[] {"->", "::", "try", "catch", "finally", "package", "synchronized", "assert",
            "System.out", "Object", "instanceof", "static {", "Exact("}) {
            due(!code.contains(word), "the class holds " + word);
        }
        Matcher imports = Pattern.compile("import ([\\w.*]+);").matcher(code);
        while (imports.find()) {
            due(Set.of("java.util.Arrays", "java.util.NoSuchElementException").contains(imports.group(1)),
                    "imports " + imports.group(1));
        }
        Matcher thrown = Pattern.compile("throw ([^;]*);").matcher(code);
        while (thrown.find()) {
            due(thrown.group(1).matches("new (IndexOutOfBounds|IllegalArgument|IllegalState|NoSuchElement|Arithmetic)"
                    + "Exception\\(\"\"\\)"), "throws " + thrown.group(1));
        }
        for (char sign : source.toCharArray()) {
            due(sign < 127, "a sign with the code " + (int) sign);
        }
    }

    public static void main(String[] arguments) throws Exception {
        checkFace();
        checkMembers();
        checkText();
        System.out.println(wrong == 0 ? "face: all is as due" : "face: " + wrong + " faults");
        if (wrong != 0) {
            System.exit(1);
        }
    }
}

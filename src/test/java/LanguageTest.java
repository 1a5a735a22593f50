import java.io.IOException;
import java.lang.reflect.Method;
import java.lang.reflect.Modifier;
import java.nio.file.Files;
import java.nio.file.Path;
import java.util.HashSet;
import java.util.LinkedHashMap;
import java.util.List;
import java.util.Map;
import java.util.Set;
import java.util.TreeSet;
import java.util.regex.Pattern;
import java.util.stream.Collectors;
import java.util.stream.Stream;

/** The rules of LANGUAGE.md that can be seen from the source and the class files. It is run in the root of the project. */
final class LanguageTest {
    private static final Set<String> LIBRARY = Set.of("java/lang/Object.<init>", "java/lang/Math.abs", "java/lang/Math.max",
        "java/lang/Math.min", "java/lang/Integer.bitCount", "java/lang/System.arraycopy", "java/util/Arrays.fill",
        "java/lang/IndexOutOfBoundsException.<init>", "java/lang/IllegalArgumentException.<init>",
        "java/lang/IllegalStateException.<init>");
    private static final List<String> WORDS = List.of("package", "finally", "synchronized", "assert", "try", "catch", "instanceof",
        "float", "double", "protected", "static\\s*\\{", "->", "::", "\\+\\s*\"", "\"\\s*\\+");

    private static final int DEPTH = 8;
    /** These alone touch an array by an index, and each of them looks at the index first: one that is new here is read for that. */
    private static final Set<String> ARRAYS = new TreeSet<>(Set.of("CaptionHouse.item", "CaptionHouse.store", "CaptionHouse.isBehind",
        "CaptionHouse.setBehind", "CaptionHouse$Film.marksAt", "CaptionHouse$Film.unmark", "CaptionHouse$Film.renumber",
        "CaptionHouse$Page.at", "CaptionHouse$Page.writeUnit"));

    private LanguageTest() {
    }

    public static void main(String[] args) throws IOException {
        String source = Files.readString(Path.of("src/main/java/CaptionHouse.java"));
        words(source);
        objectsAreMadeAtFirst(source);
        shortMethods(source);
        List<Class<?>> classes = Stream.concat(Stream.of(CaptionHouse.class), Stream.of(CaptionHouse.class.getDeclaredClasses()))
            .collect(Collectors.toList());
        Checks.holds("at most 12 classes", classes.size() <= 12);
        Map<String, Set<String>> calls = new LinkedHashMap<>();
        Set<String> touching = new TreeSet<>();
        for (Class<?> one : classes) {
            members(one);
            ClassFile file = new ClassFile(one);
            calls.putAll(file.calls());
            touching.addAll(file.touching());
        }
        library(calls);
        callsAreNotDeep(calls);
        Checks.due("what touches arrays", touching, ARRAYS);
        Checks.end("LanguageTest");
    }

    private static void words(String source) {
        String code = source.replaceAll("(?s)/\\*.*?\\*/", "").replaceAll("//[^\n]*", "");
        for (String word : WORDS) {
            boolean isName = Character.isLetter(word.charAt(0)) && Character.isLetter(word.charAt(word.length() - 1));
            String pattern = isName ? "\\b" + word + "\\b" : word;
            Checks.due(word + " in the source", Pattern.compile(pattern).matcher(code).find(), false);
        }
        Checks.holds("signs 1 to 127", source.chars().allMatch(sign -> sign >= 1 && sign <= 127));
    }

    /** A call makes no objects but the exception that it throws: so the calls of a run cannot fill the room. */
    private static void objectsAreMadeAtFirst(String source) {
        for (String line : source.split("\n")) {
            if (line.matches(".*\\bnew\\b.*")) {
                String text = line.trim();
                Checks.holds(text, text.startsWith("throw new ") || text.startsWith("private final "));
            }
        }
    }

    private static void shortMethods(String source) {
        int start = 0;
        String[] lines = source.split("\n");
        for (int i = 0; i < lines.length; i++) {
            if (lines[i].matches("(    |        )[^ /*}].*\\) (throws .*)?\\{")) {
                start = i;
            }
            if (lines[i].equals("    }") || lines[i].equals("        }")) {
                Checks.holds("at most 60 lines, and those up to " + (i + 1), i - start < 60);
            }
        }
    }

    private static void members(Class<?> one) {
        long fields = Stream.of(one.getDeclaredFields()).filter(field -> !Modifier.isStatic(field.getModifiers())).count();
        Checks.holds("at most 20 fields in " + one, fields <= 20);
        if (one != CaptionHouse.class) {
            Checks.due("modifiers of " + one, Modifier.toString(one.getModifiers()), "private static final");
        }
        Set<String> face = new HashSet<>();
        for (Method method : CaptionHouse.class.getDeclaredMethods()) {
            if (Modifier.isPublic(method.getModifiers())) {
                face.add(method.getName());
            }
        }
        for (Method method : one.getDeclaredMethods()) {
            Checks.holds("at most 7 parameters of " + method, method.getParameterCount() <= 7);
            if (!Modifier.isPublic(method.getModifiers())) {
                Checks.due(method + " bears a name of the face", face.contains(method.getName()), false);
            }
        }
    }

    private static void library(Map<String, Set<String>> calls) {
        for (Set<String> called : calls.values()) {
            for (String name : called) {
                Checks.holds(name + " in the library", calls.containsKey(name) || LIBRARY.contains(name));
            }
        }
    }

    /** Calls go at most eight deep; one that came back to itself would go on deeper, and is seen here too. */
    private static void callsAreNotDeep(Map<String, Set<String>> calls) {
        Checks.holds("there are calls to look at", calls.size() > 34);
        for (String name : calls.keySet()) {
            Checks.due("a chain of more than " + DEPTH + " calls", deeper(calls, name, DEPTH), "");
        }
    }

    /** A chain that begins with this call, and is longer than that; empty if there is none. */
    private static String deeper(Map<String, Set<String>> calls, String name, int most) {
        if (most == 0) {
            return name;
        }
        for (String called : calls.getOrDefault(name, Set.of())) {
            String chain = deeper(calls, called, most - 1);
            if (!chain.isEmpty()) {
                return name + ", " + chain;
            }
        }
        return "";
    }
}

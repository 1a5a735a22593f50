import java.io.DataInputStream;
import java.io.IOException;
import java.lang.reflect.Method;
import java.lang.reflect.Modifier;
import java.nio.file.Files;
import java.nio.file.Path;
import java.util.HashSet;
import java.util.List;
import java.util.Set;
import java.util.regex.Pattern;
import java.util.stream.Collectors;
import java.util.stream.Stream;

/** The rules of LANGUAGE.md that can be seen from the source and the class files. It is run in the root of the project. */
final class LanguageTest {
    private static final Set<String> LIBRARY = Set.of("java/lang/Object.<init>", "java/lang/Math.abs", "java/lang/Math.max",
        "java/lang/Math.min", "java/lang/Integer.bitCount", "java/lang/System.arraycopy", "java/util/Arrays.fill",
        "java/lang/IndexOutOfBoundsException.<init>", "java/lang/IllegalArgumentException.<init>",
        "java/lang/IllegalStateException.<init>");
    private static final List<String> WORDS = List.of("package", "finally", "synchronized", "assert", "try", "catch", "instanceof",
        "float", "double", "protected", "static\\s*\\{", "->", "::", "\\+\\s*\"", "\"\\s*\\+");

    private LanguageTest() {
    }

    public static void main(String[] args) throws IOException {
        String source = Files.readString(Path.of("src/main/java/CaptionHouse.java"));
        words(source);
        objectsAreMadeAtFirst(source);
        shortMethods(source);
        List<Class<?>> classes = Stream.concat(Stream.of(CaptionHouse.class), Stream.of(CaptionHouse.class.getDeclaredClasses()))
            .collect(Collectors.toList());
        Checks.holds("at most 12 classes", classes.size() <= 12);
        for (Class<?> one : classes) {
            members(one);
            library(one);
        }
        Checks.end("LanguageTest");
    }

    private static void words(String source) {
        String code = source.replaceAll("(?s)/\\*.*?\\*/", "").replaceAll("//[^\n]*", "");
        for (String word : WORDS) {
            boolean isName = Character.isLetter(word.charAt(0)) && Character.isLetter(word.charAt(word.length() - 1));
            String pattern = isName ? "\\b" + word + "\\b" : word;
            Checks.due(word + " in the source", Pattern.compile(pattern).matcher(code).find(), false);
        }
        Checks.holds("signs 1 to 127", source.chars().allMatch(sign -> sign >= 1 && sign <= 127));
    }

    /** A call makes no objects but the exception that it throws: so the calls of a run cannot fill the room. */
    private static void objectsAreMadeAtFirst(String source) {
        for (String line : source.split("\n")) {
            if (line.matches(".*\\bnew\\b.*")) {
                String text = line.trim();
                Checks.holds(text, text.startsWith("throw new ") || text.startsWith("private final "));
            }
        }
    }

    private static void shortMethods(String source) {
        int start = 0;
        String[] lines = source.split("\n");
        for (int i = 0; i < lines.length; i++) {
            if (lines[i].matches("(    |        )[^ /*}].*\\) (throws .*)?\\{")) {
                start = i;
            }
            if (lines[i].equals("    }") || lines[i].equals("        }")) {
                Checks.holds("at most 60 lines, and those up to " + (i + 1), i - start < 60);
            }
        }
    }

    private static void members(Class<?> one) {
        long fields = Stream.of(one.getDeclaredFields()).filter(field -> !Modifier.isStatic(field.getModifiers())).count();
        Checks.holds("at most 20 fields in " + one, fields <= 20);
        if (one != CaptionHouse.class) {
            Checks.due("modifiers of " + one, Modifier.toString(one.getModifiers()), "private static final");
        }
        Set<String> face = new HashSet<>();
        for (Method method : CaptionHouse.class.getDeclaredMethods()) {
            if (Modifier.isPublic(method.getModifiers())) {
                face.add(method.getName());
            }
        }
        for (Method method : one.getDeclaredMethods()) {
            Checks.holds("at most 7 parameters of " + method, method.getParameterCount() <= 7);
            if (!Modifier.isPublic(method.getModifiers())) {
                Checks.due(method + " bears a name of the face", face.contains(method.getName()), false);
            }
        }
    }

    private static void library(Class<?> one) throws IOException {
        for (String called : calledBy(one)) {
            Checks.holds(called + " in the library", called.startsWith("CaptionHouse") || LIBRARY.contains(called));
        }
    }

    /** The methods to which a class file points, read from its constants; one that is made when it runs is told too. */
    private static Set<String> calledBy(Class<?> one) throws IOException {
        try (DataInputStream in = new DataInputStream(one.getResourceAsStream("/" + one.getName() + ".class"))) {
            in.skipBytes(8);
            int count = in.readUnsignedShort();
            String[] texts = new String[count];
            int[][] parts = new int[count][];
            for (int i = 1; i < count; i++) {
                i += readConstant(in, i, texts, parts);
            }
            Set<String> called = new HashSet<>();
            for (int[] part : parts) {
                if (part != null && (part[0] == 10 || part[0] == 11)) {
                    called.add(texts[parts[part[1]][1]] + "." + texts[parts[part[2]][1]]);
                }
                if (part != null && part[0] == 18) {
                    called.add("a call that is made when it runs");
                }
            }
            return called;
        }
    }

    private static int readConstant(DataInputStream in, int i, String[] texts, int[][] parts) throws IOException {
        int tag = in.readUnsignedByte();
        switch (tag) {
            case 1:
                texts[i] = in.readUTF();
                return 0;
            case 5, 6:
                in.readLong();
                return 1;
            case 7, 8, 16, 19, 20:
                parts[i] = new int[] {tag, in.readUnsignedShort()};
                return 0;
            case 15:
                in.skipBytes(3);
                return 0;
            case 3, 4:
                in.readInt();
                return 0;
            default:
                parts[i] = new int[] {tag, in.readUnsignedShort(), in.readUnsignedShort()};
                return 0;
        }
    }
}

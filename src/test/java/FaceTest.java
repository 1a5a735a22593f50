import java.lang.reflect.Constructor;
import java.lang.reflect.Executable;
import java.lang.reflect.Field;
import java.lang.reflect.Method;
import java.lang.reflect.Modifier;
import java.util.ArrayList;
import java.util.Collections;
import java.util.List;
import java.util.stream.Collectors;
import java.util.stream.Stream;

/** The public face: every constant, constructor and method of the document, with what it throws, and nothing else. */
final class FaceTest {
    private static final String INDEX = "IndexOutOfBoundsException";
    private static final String ARGUMENT = "IllegalArgumentException";
    private static final String STATE = "IllegalStateException";

    private FaceTest() {
    }

    public static void main(String[] args) {
        Checks.due("modifiers of the class", Modifier.toString(CaptionHouse.class.getModifiers()), "public final");
        constants();
        constructor();
        methods();
        Checks.end("FaceTest");
    }

    private static void constants() {
        List<String> got = new ArrayList<>();
        for (Field field : CaptionHouse.class.getDeclaredFields()) {
            if (!Modifier.isPrivate(field.getModifiers())) {
                try {
                    got.add(Modifier.toString(field.getModifiers()) + " " + field.getType() + " " + field.getName() + " " + field.get(null));
                } catch (IllegalAccessException e) {
                    got.add(field.getName() + " is not public");
                }
            }
        }
        List<String> due = new ArrayList<>();
        due.add("NONE -1");
        addNumbered(due, "SPEECH", "TWO", "SONG", "SIGN");
        addNumbered(due, "EMPTY", "WIDE", "FAST", "HANG", "CLOSE", "STALE", "OUT", "VOICES");
        Checks.due("constants", got, due.stream().map(text -> "public static final int " + text).collect(Collectors.toList()));
    }

    private static void addNumbered(List<String> due, String... names) {
        for (int i = 0; i < names.length; i++) {
            due.add(names[i] + " " + i);
        }
    }

    private static void constructor() {
        Constructor<?>[] all = CaptionHouse.class.getDeclaredConstructors();
        Checks.due("constructors", all.length, 1);
        Checks.due("the constructor", all[0].toGenericString(), "public CaptionHouse()");
    }

    private static void methods() {
        List<String> got = new ArrayList<>();
        for (Method method : CaptionHouse.class.getDeclaredMethods()) {
            if (!Modifier.isPrivate(method.getModifiers())) {
                String modifiers = Modifier.toString(method.getModifiers());
                got.add(modifiers + " " + method.getReturnType() + " " + method.getName() + " " + tail(method));
            }
        }
        List<String> due = dueMethods();
        Collections.sort(got);
        Collections.sort(due);
        Checks.due("how many methods", got.size(), 34);
        Checks.due("methods", String.join("\n", got), String.join("\n", due));
    }

    private static String tail(Executable method) {
        boolean ints = Stream.of(method.getParameterTypes()).allMatch(type -> type == int.class);
        String thrown = Stream.of(method.getExceptionTypes()).map(Class::getSimpleName).collect(Collectors.joining(" "));
        return (ints ? method.getParameterCount() + " ints" : "other parameters") + " throws " + thrown;
    }

    private static List<String> dueMethods() {
        List<String> due = new ArrayList<>();
        add(due, "int", 1, List.of(ARGUMENT, STATE), "addShot");
        add(due, "int", 2, List.of(INDEX, ARGUMENT), "cut", "setLook");
        add(due, "int", 3, List.of(INDEX, ARGUMENT), "move", "lay");
        add(due, "int", 4, List.of(INDEX, ARGUMENT, STATE), "putBack", "letGo");
        add(due, "int", 0, List.of(), "frames", "captions");
        add(due, "int", 1, List.of(INDEX), "frameAt", "startOf", "lengthOf", "startByFrames", "fill", "memory", "faults");
        add(due, "int", 2, List.of(INDEX), "placeOf", "signs", "width", "rows", "broken");
        add(due, "boolean", 1, List.of(INDEX), "isBoundary");
        add(due, "boolean", 2, List.of(INDEX), "isStale");
        add(due, "int", 2, List.of(INDEX, ARGUMENT, STATE), "add");
        add(due, "int", 1, List.of(ARGUMENT), "inOrder");
        add(due, "int", 3, List.of(INDEX, ARGUMENT, STATE), "type");
        add(due, "int", 2, List.of(INDEX, STATE), "erase", "confirm");
        add(due, "int", 3, List.of(INDEX), "signAt", "row", "nameOf");
        add(due, "int", 2, List.of(ARGUMENT), "setLimits");
        add(due, "int", 2, List.of(ARGUMENT, INDEX), "written");
        add(due, "char", 3, List.of(ARGUMENT, INDEX), "writtenChar");
        return due;
    }

    private static void add(List<String> due, String type, int ints, List<String> thrown, String... names) {
        for (String name : names) {
            due.add("public " + type + " " + name + " " + ints + " ints throws " + String.join(" ", thrown));
        }
    }
}

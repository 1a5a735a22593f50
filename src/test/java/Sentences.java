import java.io.IOException;
import java.nio.file.Files;
import java.nio.file.Path;
import java.util.Arrays;
import java.util.LinkedHashMap;
import java.util.Map;

/** The sentences of ../shared/DOC.md: each is quoted ahead of the test that it has, and none is left over at the end. It is run in the root of the project. */
final class Sentences {
    private static final Map<String, String> TEXTS = new LinkedHashMap<>();
    private static final Map<String, boolean[]> QUOTED = new LinkedHashMap<>();
    private static int tested = 0;

    private Sentences() {
    }

    static void read() throws IOException {
        for (String part : Files.readString(Path.of("../shared/DOC.md")).split("(?m)^## ")) {
            String title = part.lines().findFirst().orElse("").trim();
            String name = title.replaceFirst(":.*", "");
            // What each call is declared with stands in FaceTest.
            String text = part.substring(part.indexOf('\n')).replaceFirst("^\\s*`[^`]*\\)[^`]*`: ", "");
            text = text.replaceAll("(?m)^- ", "").replaceAll("\\s+", " ");
            TEXTS.put(name, text);
            QUOTED.put(name, new boolean[text.length()]);
        }
    }

    /** Runs the test of a sentence: one that asks for nothing counts as wrong. */
    static void holds(String section, String sentence, Runnable test) {
        quote(section, sentence);
        Checks.about(section + ", '" + sentence + "': ");
        int before = Checks.asked();
        test.run();
        Checks.holds("the sentence is tested", Checks.asked() > before);
        Checks.about("");
        tested++;
    }

    /** A sentence that names no case of its own: a heading of what follows, or what other sentences say closer. */
    static void plain(String section, String sentence) {
        quote(section, sentence);
    }

    private static void quote(String section, String sentence) {
        int at = TEXTS.getOrDefault(section, "").indexOf(sentence);
        Checks.holds("'" + sentence + "' stands in the section " + section, at >= 0);
        if (at >= 0) {
            Arrays.fill(QUOTED.get(section), at, at + sentence.length(), true);
        }
    }

    /** Every word of a section that promises something has been quoted. */
    static void end() {
        for (String section : TEXTS.keySet()) {
            if (section.equals("Terms") || section.startsWith("Promise ")) {
                Checks.due("not quoted of the section " + section, left(section), "");
            }
        }
        System.out.println(tested + " sentences with a test each");
    }

    private static String left(String section) {
        StringBuilder left = new StringBuilder();
        for (int i = 0; i < TEXTS.get(section).length(); i++) {
            char sign = TEXTS.get(section).charAt(i);
            boolean isLeft = !QUOTED.get(section)[i] && (Character.isLetterOrDigit(sign) || sign == ' ');
            left.append(isLeft ? sign : ' ');
        }
        return left.toString().replaceAll(" +", " ").trim();
    }
}

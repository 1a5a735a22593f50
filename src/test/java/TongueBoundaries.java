import java.util.function.Consumer;

/** The sentences about tongues and memories: promises 26 to 29, and the terms that they need. */
final class TongueBoundaries {
    private static final int[] NO_TONGUES = {Integer.MIN_VALUE, -1, 3, Integer.MAX_VALUE};
    private static final int[] NONE_OF_BOTH = {Integer.MIN_VALUE, -1, 0, 3, Integer.MAX_VALUE};
    private static final int[] NO_CAPTIONS = {Integer.MIN_VALUE, -1, 16, Integer.MAX_VALUE};

    private TongueBoundaries() {
    }

    static void run() {
        terms();
        confirms();
        fills();
        questions();
    }

    private static void terms() {
        Sentences.holds("Terms", "A text in the tongue 1 or 2 is stale if it is not empty,", TongueBoundaries::staleIfNotEmpty);
        Sentences.holds("Terms", "and the text in the tongue 0 was changed (typed, erased) behind the last time at which this one was typed, erased, confirmed or filled in.", TongueBoundaries::staleBehind);
        Sentences.holds("Terms", "To confirm such a text is to keep it in the memory of its tongue for the text in the tongue 0 as it is then,", TongueBoundaries::keptAsItIs);
        Sentences.holds("Terms", "in place of the one that was kept for the same text.", TongueBoundaries::sameText);
        Sentences.holds("Terms", "The memory of a tongue keeps at most 8;", TongueBoundaries::fullMemory);
        Sentences.holds("Terms", "when it has one more, that goes which was kept, or filled in, the longest ago.", TongueBoundaries::longestAgo);
        Sentences.holds("Terms", "To fill a tongue is to go through the captions by rising numbers:", TongueBoundaries::risingNumbers);
        Sentences.holds("Terms", "where the text in that tongue is empty or stale,", TongueBoundaries::emptyOrStale);
        Sentences.holds("Terms", "and the memory has one for the text in the tongue 0 (which is not empty),", TongueBoundaries::memoryHasOne);
        Sentences.holds("Terms", "the memory has one for the text in the tongue 0", TongueBoundaries::textsBesideMemories);
        Sentences.holds("Terms", "the caption gets it, also if it is the one that it has.", TongueBoundaries::theOneThatItHas);
    }

    private static void confirms() {
        Sentences.plain("Promise 26", "Confirms a text.");
        Sentences.holds("Promise 26", "`caption`: a caption", TongueBoundaries::confirmCaption);
        Sentences.holds("Promise 26", "`tongue`: 1 or 2", TongueBoundaries::confirmTongue);
        Sentences.holds("Promise 26", "Returns how many texts the memory of this tongue keeps then.", TongueBoundaries::fullMemory);
        Sentences.holds("Promise 26", "Throws `IndexOutOfBoundsException` if there is no such caption, or tongue is none of both", TongueBoundaries::confirmNowhere);
        Sentences.holds("Promise 26", "Throws `IllegalStateException` if it, or the text in the tongue 0, is empty", TongueBoundaries::confirmNothing);
    }

    private static void fills() {
        Sentences.plain("Promise 27", "Fills a tongue.");
        Sentences.holds("Promise 27", "`tongue`: 1 or 2", TongueBoundaries::fillTongue);
        Sentences.holds("Promise 27", "Returns how many captions get a text.", TongueBoundaries::fillReturns);
        Sentences.holds("Promise 27", "Throws `IndexOutOfBoundsException` if tongue is none of both", TongueBoundaries::fillTongue);
    }

    private static void questions() {
        Sentences.plain("Promise 28", "Tells whether a text is stale.");
        Sentences.holds("Promise 28", "`caption`: a caption `tongue`: 0 to 2", TongueBoundaries::staleOfTexts);
        Sentences.holds("Promise 28", "false for the tongue 0.", TongueBoundaries::firstTongueIsNeverStale);
        Sentences.holds("Promise 28", "Returns whether it is;", TongueBoundaries::staleTexts);
        Sentences.holds("Promise 28", "Throws `IndexOutOfBoundsException` if there is no such caption or tongue", TongueBoundaries::staleOfTexts);
        Sentences.holds("Promise 29", "Returns how many texts the memory of a tongue keeps.", TongueBoundaries::fullMemory);
        Sentences.holds("Promise 29", "`tongue`: 1 or 2", TongueBoundaries::memoryTongue);
        Sentences.holds("Promise 29", "Throws `IndexOutOfBoundsException` if tongue is none of both", TongueBoundaries::memoryTongue);
    }

    /** Confirms a text by the caption 0, whose texts are empty behind it. */
    private static int keep(CaptionHouse house, int tongue, String original, String made) {
        Houses.put(house, 0, 0, original);
        Houses.put(house, 0, tongue, made);
        int count = house.confirm(0, tongue);
        Houses.put(house, 0, tongue, "");
        Houses.put(house, 0, 0, "");
        return count;
    }

    /** Keeps the first letters, each for itself as a great one, in the tongue 1. */
    private static CaptionHouse letters(int count) {
        CaptionHouse house = Houses.captions(16);
        keepLetters(house, 0, count);
        return house;
    }

    private static void keepLetters(CaptionHouse house, int from, int count) {
        for (int i = from; i < from + count; i++) {
            keep(house, 1, String.valueOf((char) ('a' + i)), String.valueOf((char) ('A' + i)));
        }
    }

    /** What a caption gets in the tongue for a text in the tongue 0. */
    private static String got(CaptionHouse house, int caption, int tongue, String original) {
        Houses.put(house, caption, tongue, "");
        Houses.put(house, caption, 0, original);
        house.fill(tongue);
        String got = Houses.text(house, caption, tongue);
        Houses.put(house, caption, tongue, "");
        Houses.put(house, caption, 0, "");
        return got;
    }

    /** All letters for which the memory of the tongue 1 has one, behind so many that were kept and what comes then; each is asked for in a house of its own, as asking is a use. */
    private static String kept(int count, Consumer<CaptionHouse> then) {
        StringBuilder kept = new StringBuilder();
        for (char letter = 'a'; letter <= 'z'; letter++) {
            CaptionHouse house = letters(count);
            then.accept(house);
            kept.append(got(house, 15, 1, String.valueOf(letter)).toLowerCase());
        }
        return kept.toString();
    }

    // ---- terms

    private static void staleIfNotEmpty() {
        for (int tongue = 1; tongue < 3; tongue++) {
            CaptionHouse house = Houses.captions(1);
            house.type(0, 0, 'a');
            Checks.due("an empty text", house.isStale(0, tongue), false);
            house.type(0, tongue, 'x');
            house.type(0, 0, 'b');
            Checks.due("a text of one sign", house.isStale(0, tongue), true);
            Checks.due("the other tongue", house.isStale(0, 3 - tongue), false);
            house.erase(0, tongue);
            Checks.due("empty again", house.isStale(0, tongue), false);
            house.erase(0, 0);
            house.erase(0, 0);
            Checks.due("empty, and changed", house.isStale(0, tongue), false);
            house.type(0, tongue, 'x');
            Checks.due("typed behind that", house.isStale(0, tongue), false);
        }
    }

    private static void staleTexts() {
        CaptionHouse house = letters(0);
        for (int caption = 0; caption < 16; caption++) {
            house.type(caption, 1, 'x');
            house.type(caption, 2, 'x');
        }
        for (int caption = 0; caption < 16; caption += 15) {
            house.type(caption, 0, 'a');
        }
        for (int caption = 0; caption < 16; caption++) {
            Checks.due("the tongue 1 of " + caption, house.isStale(caption, 1), caption % 15 == 0);
            Checks.due("the tongue 2 of " + caption, house.isStale(caption, 2), caption % 15 == 0);
        }
    }

    private static CaptionHouse stale() {
        CaptionHouse house = Houses.captions(2);
        Houses.type(house, 0, 0, "ab");
        Houses.type(house, 0, 1, "xy");
        Checks.due("no change behind it", house.isStale(0, 1), false);
        house.type(0, 0, 'c');
        Checks.due("typed behind it", house.isStale(0, 1), true);
        return house;
    }

    private static void staleBehind() {
        CaptionHouse typed = stale();
        typed.type(0, 1, 'z');
        Checks.due("this one is typed", typed.isStale(0, 1), false);
        typed.erase(0, 0);
        Checks.due("erased behind it", typed.isStale(0, 1), true);
        typed.erase(0, 1);
        Checks.due("this one is erased", typed.isStale(0, 1), false);
        CaptionHouse confirmed = stale();
        confirmed.confirm(0, 1);
        Checks.due("this one is confirmed", confirmed.isStale(0, 1), false);
        confirmed.erase(0, 0);
        confirmed.type(0, 0, 'c');
        Checks.due("changed, though it is the same", confirmed.isStale(0, 1), true);
        Checks.due("fill", confirmed.fill(1), 1);
        Checks.due("this one is filled in", confirmed.isStale(0, 1), false);
        CaptionHouse others = stale();
        others.type(1, 1, 'x');
        others.type(0, 2, 'x');
        others.lay(0, 50, 5);
        others.setLook(0, CaptionHouse.SONG);
        others.letGo(0, 1, CaptionHouse.STALE, 1);
        others.confirm(0, 2);
        others.fill(1);
        Checks.due("all else does not help", others.isStale(0, 1) + " " + others.isStale(1, 1) + " " + others.isStale(0, 2), "true false false");
        CaptionHouse refused = stale();
        refused.confirm(0, 1);
        Checks.noArgument(refused, "a sign that is refused", () -> refused.type(0, 0, 31));
        Checks.due("it changes nothing", refused.isStale(0, 1), false);
    }

    private static void keptAsItIs() {
        CaptionHouse house = Houses.captions(3);
        Houses.type(house, 0, 0, "ab");
        Houses.type(house, 0, 1, "xy");
        house.confirm(0, 1);
        house.type(0, 0, 'c');
        house.type(0, 1, 'z');
        Checks.due("as it was", got(house, 1, 1, "ab"), "xy");
        Checks.due("as it is now", got(house, 1, 1, "abc"), "");
        Checks.due("one sign less", got(house, 1, 1, "a"), "");
        Checks.due("the other tongue", got(house, 1, 2, "ab"), "");
        Houses.put(house, 1, 0, "ab");
        house.fill(1);
        house.type(1, 1, '!');
        Checks.due("what was filled in may be changed", got(house, 2, 1, "ab"), "xy");
        String full = "a".repeat(59);
        keep(house, 2, full + "b", "\ud83d\ude00".repeat(60));
        Checks.due("60 signs", got(house, 1, 2, full + "b"), "\ud83d\ude00".repeat(60));
        Checks.due("another 60th sign", got(house, 1, 2, full + "c"), "");
        Checks.due("59 signs", got(house, 1, 2, full), "");
        keep(house, 2, "a", "\n");
        Checks.due("one sign, a break", got(house, 1, 2, "a"), "\n");
    }

    private static void sameText() {
        CaptionHouse house = letters(0);
        Checks.due("the first one", keep(house, 1, "ab", "x"), 1);
        Checks.due("for the same text", keep(house, 1, "ab", "yy"), 1);
        Checks.due("the later one", got(house, 1, 1, "ab"), "yy");
        Checks.due("a shorter one", keep(house, 1, "ab", "z"), 1);
        Checks.due("the later one", got(house, 1, 1, "ab"), "z");
        Checks.due("another text, made the same", keep(house, 1, "abc", "z"), 2);
        Checks.due("one with one sign less", keep(house, 1, "a", "z"), 3);
        Checks.due("the same text in the other tongue", keep(house, 2, "ab", "z"), 1);
        CaptionHouse full = letters(8);
        Checks.due("for the same text as one of 8", keep(full, 1, "d", "new"), 8);
        Checks.due("the others stay", kept(8, same -> keep(same, 1, "d", "d")), "abcdefgh");
        Checks.due("the later one", got(full, 1, 1, "d"), "new");
    }

    private static void fullMemory() {
        CaptionHouse house = letters(0);
        Checks.due("a new house", house.memory(1) + " " + house.memory(2), "0 0");
        for (int i = 1; i <= 10; i++) {
            int due = i < 8 ? i : 8;
            Checks.due("confirm", keep(house, 1, "a".repeat(i), "x"), due);
            Checks.due("memory", house.memory(1) + " " + house.memory(2), due + " 0");
        }
        Checks.due("confirm in the tongue 2", keep(house, 2, "a", "x") + " " + house.memory(1) + " " + house.memory(2), "1 8 1");
        Checks.due("7", kept(7, then -> { }), "abcdefg");
        Checks.due("8", kept(8, then -> { }), "abcdefgh");
        Checks.due("9", kept(9, then -> { }), "bcdefghi");
        Checks.due("10", kept(10, then -> { }), "cdefghij");
        Checks.due("16", kept(16, then -> { }), "ijklmnop");
        Checks.due("17", kept(17, then -> { }), "jklmnopq");
        Checks.due("26", kept(26, then -> { }), "stuvwxyz");
        CaptionHouse full = letters(0);
        for (int tongue = 1; tongue < 3; tongue++) {
            for (int i = 0; i < 8; i++) {
                keep(full, tongue, String.valueOf((char) ('a' + i)).repeat(60), String.valueOf((char) ('A' + i + 8 * tongue)).repeat(60));
            }
        }
        Houses.put(full, 15, 0, "z".repeat(60));
        for (int tongue = 1; tongue < 3; tongue++) {
            for (int i = 0; i < 8; i++) {
                String due = String.valueOf((char) ('A' + i + 8 * tongue)).repeat(60);
                Checks.due("8 full texts", got(full, 14, tongue, String.valueOf((char) ('a' + i)).repeat(60)), due);
            }
        }
        Checks.due("the texts beside them", Houses.text(full, 15, 0) + full.signs(15, 1) + full.signs(15, 2), "z".repeat(60) + "00");
    }

    private static void longestAgo() {
        Checks.due("kept", kept(8, house -> keepLetters(house, 8, 1)), "bcdefghi");
        Checks.due("filled in", kept(8, house -> {
            got(house, 1, 1, "a");
            keepLetters(house, 8, 1);
        }), "acdefghi");
        Checks.due("kept once more", kept(8, house -> {
            keepLetters(house, 0, 1);
            keepLetters(house, 8, 1);
        }), "acdefghi");
        Checks.due("the first one is kept once more, the second one filled in", kept(8, house -> {
            keepLetters(house, 0, 1);
            got(house, 1, 1, "b");
            keepLetters(house, 8, 1);
        }), "abdefghi");
        Checks.due("filled in ahead of what was kept once more", kept(8, house -> {
            got(house, 1, 1, "a");
            keepLetters(house, 1, 7);
            keepLetters(house, 8, 1);
        }), "bcdefghi");
        Checks.due("all are filled in, the last one first", kept(8, house -> {
            for (char letter = 'h'; letter >= 'a'; letter--) {
                got(house, 1, 1, String.valueOf(letter));
            }
            keepLetters(house, 8, 1);
        }), "abcdefgi");
        Checks.due("asked for, but not filled in", kept(8, house -> {
            Houses.put(house, 1, 1, "own");
            Houses.put(house, 1, 0, "a");
            Houses.put(house, 1, 1, "own");
            house.fill(1);
            keepLetters(house, 8, 1);
            Houses.put(house, 1, 0, "");
        }), "bcdefghi");
        Checks.due("filled in in the other tongue", kept(8, house -> {
            keep(house, 2, "a", "x");
            got(house, 1, 2, "a");
            keepLetters(house, 8, 1);
        }), "bcdefghi");
    }

    private static void risingNumbers() {
        Checks.due("the caption 1 is filled ahead of the caption 2", kept(8, house -> {
            Houses.put(house, 2, 0, "b");
            Houses.put(house, 1, 0, "a");
            house.fill(1);
            keepLetters(house, 8, 7);
        }), "bijklmno");
        Checks.due("the other way round", kept(8, house -> {
            Houses.put(house, 1, 0, "b");
            Houses.put(house, 2, 0, "a");
            house.fill(1);
            keepLetters(house, 8, 7);
        }), "aijklmno");
        Checks.due("the captions 0 and 14", kept(8, house -> {
            Houses.put(house, 14, 0, "a");
            Houses.put(house, 0, 0, "b");
            house.fill(1);
            Houses.put(house, 0, 1, "");
            keepLetters(house, 8, 7);
        }), "aijklmno");
        Checks.due("by numbers, not by starts", kept(8, house -> {
            Houses.put(house, 2, 0, "b");
            Houses.put(house, 1, 0, "a");
            house.lay(1, 190, 1);
            house.fill(1);
            keepLetters(house, 8, 7);
        }), "bijklmno");
    }

    private static void emptyOrStale() {
        CaptionHouse house = letters(1);
        Houses.put(house, 1, 0, "a");
        Houses.put(house, 2, 0, "a");
        Houses.put(house, 2, 1, "own");
        Houses.put(house, 3, 1, "own");
        Houses.put(house, 3, 0, "a");
        Checks.due("an empty one, a settled one, a stale one", house.fill(1), 2);
        Checks.due("texts", Houses.text(house, 1, 1) + " " + Houses.text(house, 2, 1) + " " + Houses.text(house, 3, 1), "A own A");
        house.erase(2, 1);
        Checks.due("a settled one of two signs", house.fill(1) + " " + Houses.text(house, 2, 1), "0 ow");
        house.erase(2, 1);
        house.erase(2, 1);
        Checks.due("erased until it is empty", house.fill(1) + " " + Houses.text(house, 2, 1), "1 A");
        house.cut(0, 200);
        Houses.put(house, 2, 1, "");
        Checks.due("one that is out", house.fill(1) + " " + Houses.text(house, 2, 1), "1 A");
    }

    private static void memoryHasOne() {
        CaptionHouse house = letters(8);
        Houses.put(house, 1, 0, "i");
        Houses.put(house, 2, 1, "own");
        Houses.put(house, 2, 0, "aa");
        Checks.due("no such text", house.fill(1), 0);
        Checks.due("texts", Houses.text(house, 1, 1) + "," + Houses.text(house, 2, 1) + "," + house.isStale(2, 1), ",own,true");
        Houses.put(house, 2, 0, "");
        Checks.due("an empty text in the tongue 0", house.fill(1) + " " + Houses.text(house, 2, 1) + " " + house.isStale(2, 1), "0 own true");
        Checks.due("a memory without a text", house.fill(2), 0);
        house.erase(1, 0);
        house.type(1, 0, 'h');
        Checks.due("the last one", house.fill(1) + " " + Houses.text(house, 1, 1), "1 H");
        CaptionHouse empty = Houses.captions(2);
        Houses.put(empty, 0, 0, "a");
        Checks.due("a memory without a text", empty.fill(1) + " " + empty.fill(2), "0 0");
    }

    /** A text of a caption, or one that the other memory keeps as an answer, is not asked for. */
    private static void textsBesideMemories() {
        CaptionHouse house = letters(8);
        Houses.put(house, 15, 2, "q");
        Houses.put(house, 1, 0, "q");
        Checks.due("the last text of the captions", house.fill(1) + " " + house.fill(2), "0 0");
        Houses.put(house, 15, 2, "a");
        Houses.put(house, 1, 0, "a");
        Checks.due("it is the same as one that is kept", house.fill(1) + " " + Houses.text(house, 1, 1), "1 A");
        keep(house, 2, "z", "Z");
        Houses.put(house, 2, 0, "H");
        Houses.put(house, 3, 0, "A");
        Houses.put(house, 4, 0, "Z");
        Checks.due("answers", house.fill(1) + " " + house.fill(2), "0 0");
        Houses.put(house, 4, 0, "z");
        Checks.due("kept in the tongue 2", house.fill(1) + " " + house.fill(2), "0 1");
    }

    private static void theOneThatItHas() {
        CaptionHouse house = letters(1);
        Houses.put(house, 1, 1, "A");
        Houses.put(house, 1, 0, "a");
        house.letGo(1, 1, CaptionHouse.STALE, 4);
        Checks.due("it gets the one that it has", house.fill(1), 1);
        Checks.due("it is not stale", Houses.text(house, 1, 1) + " " + house.isStale(1, 1), "A false");
        Checks.due("the name ends", house.nameOf(1, 1, CaptionHouse.STALE), 0);
        Checks.due("it gets none now", house.fill(1), 0);
        Houses.put(house, 2, 1, "a longer one");
        Houses.put(house, 2, 0, "a");
        Checks.due("a shorter one in place of a longer one", house.fill(1) + " " + Houses.text(house, 2, 1), "1 A");
    }

    // ---- confirm and fill

    private static void confirmCaption() {
        CaptionHouse house = Houses.captions(16);
        for (int caption : new int[] {0, 15}) {
            house.type(caption, 0, 'a');
            house.type(caption, 2, 'b');
            Checks.due("confirm of " + caption, house.confirm(caption, 2), 1);
        }
        Bounds.refused("confirm of", Bounds.INDEX, house, (of, caption) -> of.confirm(caption, 2), NO_CAPTIONS);
    }

    private static void confirmTongue() {
        CaptionHouse house = Houses.captions(1);
        for (int tongue = 0; tongue < 3; tongue++) {
            house.type(0, tongue, 'a');
        }
        Bounds.refused("confirm in", Bounds.INDEX, house, (of, tongue) -> of.confirm(0, tongue), NONE_OF_BOTH);
        Checks.due("in the tongues 1 and 2", house.confirm(0, 1) + " " + house.confirm(0, 2), "1 1");
        Bounds.refused("confirm in", Bounds.INDEX, house, (of, tongue) -> of.confirm(0, tongue), NONE_OF_BOTH);
    }

    private static void confirmNowhere() {
        CaptionHouse house = Houses.captions(3);
        house.type(0, 0, 'a');
        house.type(0, 1, 'b');
        Bounds.refused("confirm of", Bounds.INDEX, house, (of, caption) -> of.confirm(caption, 1), Integer.MIN_VALUE, -1, 3, 15, 16, Integer.MAX_VALUE);
        for (int caption = 0; caption < 3; caption++) {
            int of = caption;
            Bounds.refused("confirm in", Bounds.INDEX, house, (same, tongue) -> same.confirm(of, tongue), NONE_OF_BOTH);
        }
    }

    private static void confirmNothing() {
        CaptionHouse house = Houses.captions(1);
        Bounds.refused("confirm with both empty", Bounds.STATE, house, (of, tongue) -> of.confirm(0, tongue), 1, 2);
        house.type(0, 0, 'a');
        Bounds.refused("confirm of an empty text", Bounds.STATE, house, (of, tongue) -> of.confirm(0, tongue), 1, 2);
        house.type(0, 1, 'b');
        Checks.noState(house, "confirm of the other one", () -> house.confirm(0, 2));
        house.erase(0, 0);
        Checks.noState(house, "confirm without a text in the tongue 0", () -> house.confirm(0, 1));
        house.type(0, 0, 'a');
        Checks.due("one sign in both", house.confirm(0, 1), 1);
        house.erase(0, 1);
        Checks.noState(house, "confirm of a text that was erased", () -> house.confirm(0, 1));
        Checks.due("memory", house.memory(1) + " " + house.memory(2), "1 0");
    }

    private static void fillTongue() {
        CaptionHouse house = letters(1);
        keep(house, 2, "a", "B");
        Houses.put(house, 1, 0, "a");
        Bounds.refused("fill", Bounds.INDEX, house, (of, tongue) -> of.fill(tongue), NONE_OF_BOTH);
        Checks.due("the tongue 1", house.fill(1) + Houses.text(house, 1, 1) + Houses.text(house, 1, 2), "1A");
        Checks.due("the tongue 2", house.fill(2) + Houses.text(house, 1, 1) + Houses.text(house, 1, 2), "1AB");
        Bounds.refused("fill of a new house", Bounds.INDEX, new CaptionHouse(), (of, tongue) -> of.fill(tongue), NONE_OF_BOTH);
    }

    private static void fillReturns() {
        Checks.due("no caption", new CaptionHouse().fill(1) + " " + new CaptionHouse().fill(2), "0 0");
        CaptionHouse house = letters(2);
        Checks.due("no text", house.fill(1), 0);
        Houses.put(house, 15, 0, "b");
        Checks.due("the last one", house.fill(1), 1);
        Houses.put(house, 15, 1, "");
        for (int caption = 0; caption < 15; caption++) {
            Houses.put(house, caption, 0, caption % 2 == 0 ? "a" : "b");
        }
        Checks.due("all", house.fill(1), 16);
        Checks.due("none", house.fill(1), 0);
    }

    // ---- questions

    private static void staleOfTexts() {
        Bounds.range("isStale of the caption", Bounds.INDEX, TongueBoundaries::stale, 0, 1, (house, caption) -> house.isStale(caption, 1));
        Bounds.range("isStale of the caption", Bounds.INDEX, () -> letters(0), 0, 15, (house, caption) -> house.isStale(caption, 2));
        Bounds.range("isStale of the tongue", Bounds.INDEX, TongueBoundaries::stale, 0, 2, (house, tongue) -> house.isStale(0, tongue));
        Bounds.refused("isStale of an empty text", Bounds.INDEX, letters(0), (house, tongue) -> house.isStale(15, tongue), NO_TONGUES);
        Bounds.refused("isStale", Bounds.INDEX, new CaptionHouse(), (house, caption) -> house.isStale(caption, 1), -1, 0, 1);
    }

    private static void firstTongueIsNeverStale() {
        CaptionHouse house = stale();
        Checks.due("the tongues", house.isStale(0, 0) + " " + house.isStale(0, 1) + " " + house.isStale(0, 2), "false true false");
        house.type(0, 1, 'x');
        house.type(0, 2, 'x');
        Checks.due("changes in the others", house.isStale(0, 0) + " " + house.isStale(0, 1) + " " + house.isStale(0, 2), "false false false");
        house.erase(0, 0);
        Checks.due("a change in it", house.isStale(0, 0) + " " + house.isStale(0, 1) + " " + house.isStale(0, 2), "false true true");
    }

    private static void memoryTongue() {
        CaptionHouse house = letters(3);
        Bounds.range("memory", Bounds.INDEX, () -> house, 1, 2, (of, tongue) -> of.memory(tongue));
        Bounds.refused("memory of a new house", Bounds.INDEX, new CaptionHouse(), (of, tongue) -> of.memory(tongue), NONE_OF_BOTH);
        Checks.due("memory", house.memory(1) + " " + house.memory(2), "3 0");
    }
}

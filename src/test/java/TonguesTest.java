/** Promises 26 to 29: tongues and their memories. */
final class TonguesTest {
    private static final int[] WRONG = {-1, 3, Integer.MIN_VALUE, Integer.MAX_VALUE};

    private TonguesTest() {
    }

    public static void main(String[] args) {
        stale();
        confirm();
        confirmRefused();
        fill();
        fillKeepsOthers();
        fillEndsNames();
        keptAnew();
        longestAgo();
        filledIsUsed();
        captionsRise();
        wrongTongues();
        Checks.end("TonguesTest");
    }

    private static CaptionHouse captions(int count) {
        CaptionHouse house = new CaptionHouse();
        house.addShot(100);
        for (int i = 0; i < count; i++) {
            house.add(5 * i, 5);
        }
        return house;
    }

    private static void clear(CaptionHouse house, int caption, int tongue) {
        while (house.signs(caption, tongue) > 0) {
            house.erase(caption, tongue);
        }
    }

    private static void put(CaptionHouse house, int caption, String original, String made) {
        clear(house, caption, 0);
        clear(house, caption, 1);
        Houses.type(house, caption, 0, original);
        Houses.type(house, caption, 1, made);
    }

    /** What the memory of the tongue 1 has for a text, told by filling a caption, which counts as a use. */
    private static String remembered(CaptionHouse house, int caption, String original) {
        put(house, caption, original, "");
        house.fill(1);
        return Houses.text(house, caption, 1);
    }

    private static void stale() {
        CaptionHouse house = captions(2);
        house.type(0, 0, 'a');
        Checks.due("an empty text", house.isStale(0, 1), false);
        house.type(0, 1, 'b');
        Checks.due("typed behind it", house.isStale(0, 1), false);
        house.type(0, 0, 'c');
        Checks.due("changed behind it", house.isStale(0, 1), true);
        Checks.due("the tongue 2", house.isStale(0, 2), false);
        Checks.due("the tongue 0", house.isStale(0, 0), false);
        Checks.due("another caption", house.isStale(1, 1), false);
        house.type(0, 1, 'd');
        Checks.due("typed", house.isStale(0, 1), false);
        house.erase(0, 0);
        Checks.due("changed by erasing", house.isStale(0, 1), true);
        house.erase(0, 1);
        Checks.due("erased", house.isStale(0, 1), false);
        house.type(0, 0, 'c');
        house.erase(0, 0);
        Checks.due("the same again", house.isStale(0, 1), true);
        house.erase(0, 1);
        Checks.due("empty again", house.isStale(0, 1), false);
        house.type(0, 2, 'x');
        house.type(0, 0, 'x');
        Checks.due("stale in the tongue 2", house.isStale(0, 2), true);
        house.lay(0, 3, 3);
        house.setLook(0, CaptionHouse.SONG);
        Checks.due("laying does not settle it", house.isStale(0, 2), true);
    }

    private static void confirm() {
        CaptionHouse house = captions(2);
        put(house, 0, "ab", "xy");
        house.type(0, 0, 'c');
        house.letGo(0, 1, CaptionHouse.STALE, 8);
        Checks.due("confirm", house.confirm(0, 1), 1);
        Checks.due("settled", house.isStale(0, 1), false);
        Checks.due("the name holds on", house.nameOf(0, 1, CaptionHouse.STALE), 8);
        Checks.due("memory", house.memory(1) + " " + house.memory(2), "1 0");
        Checks.due("for the text as it was then", remembered(house, 1, "ab"), "");
        Checks.due("for the text as it is", remembered(house, 1, "abc"), "xy");
        house.type(0, 2, 'z');
        Checks.due("confirm in the tongue 2", house.confirm(0, 2), 1);
        Checks.due("confirm again", house.confirm(0, 2), 1);
        put(house, 0, "d", "w");
        Checks.due("confirm another text", house.confirm(0, 1), 2);
        Checks.due("memory", house.memory(1) + " " + house.memory(2), "2 1");
    }

    private static void confirmRefused() {
        CaptionHouse house = captions(2);
        Checks.noState(house, "confirm with both empty", () -> house.confirm(0, 1));
        house.type(0, 1, 'b');
        Checks.noState(house, "confirm without a first text", () -> house.confirm(0, 1));
        house.type(0, 0, 'a');
        Checks.noState(house, "confirm an empty text", () -> house.confirm(0, 2));
        Checks.noIndex(house, "confirm in the tongue 0", () -> house.confirm(0, 0));
        Checks.noIndex(house, "confirm in the tongue 0 of an empty one", () -> house.confirm(1, 0));
        for (int wrong : WRONG) {
            Checks.noIndex(house, "confirm in no tongue", () -> house.confirm(0, wrong));
            Checks.noIndex(house, "confirm of no caption", () -> house.confirm(wrong, 1));
        }
    }

    private static void fill() {
        CaptionHouse house = captions(5);
        put(house, 0, "a", "x");
        house.confirm(0, 1);
        put(house, 1, "a", "");
        put(house, 2, "a", "own");
        put(house, 3, "aa", "");
        put(house, 4, "b", "old");
        house.erase(4, 0);
        house.type(4, 0, 'a');
        Checks.due("fill(1)", house.fill(1), 2);
        Checks.due("an empty one", Houses.text(house, 1, 1), "x");
        Checks.due("one that is not stale", Houses.text(house, 2, 1), "own");
        Checks.due("another text", Houses.text(house, 3, 1), "");
        Checks.due("a stale one", Houses.text(house, 4, 1), "x");
        Checks.due("not stale any more", house.isStale(4, 1), false);
        Checks.due("fill(1) again", house.fill(1), 0);
        house.erase(1, 1);
        Checks.due("one that was erased", house.fill(1) + " " + Houses.text(house, 1, 1), "1 x");
        Checks.due("fill(2)", house.fill(2), 0);
        Checks.due("memory(1)", house.memory(1), 1);
    }

    private static void fillKeepsOthers() {
        CaptionHouse house = captions(2);
        put(house, 0, "a", "x");
        house.confirm(0, 1);
        house.type(0, 2, 'y');
        house.confirm(0, 2);
        house.type(0, 0, 'b');
        house.erase(0, 0);
        Checks.due("fill(1)", house.fill(1), 1);
        Checks.due("the other tongue stays stale", house.isStale(0, 1) + " " + house.isStale(0, 2), "false true");
        Checks.due("a later change is its own", Houses.text(house, 0, 1), "x");
        house.type(0, 1, '!');
        put(house, 1, "a", "");
        house.fill(1);
        Checks.due("what is kept is a copy", Houses.text(house, 1, 1), "x");
    }

    private static void fillEndsNames() {
        CaptionHouse house = captions(2);
        put(house, 0, "a", "x");
        house.confirm(0, 1);
        house.type(0, 0, 'b');
        house.erase(0, 0);
        house.letGo(0, 1, CaptionHouse.STALE, 8);
        Checks.due("fill with the text that it has", house.fill(1), 1);
        Checks.due("the name ends", house.nameOf(0, 1, CaptionHouse.STALE), 0);
        house.letGo(1, 1, CaptionHouse.EMPTY, 8);
        Checks.due("nothing to fill", house.fill(1), 0);
        Checks.due("the name holds", house.nameOf(1, 1, CaptionHouse.EMPTY), 8);
    }

    private static void keptAnew() {
        CaptionHouse house = captions(2);
        put(house, 0, "ab", "x");
        house.confirm(0, 1);
        put(house, 0, "ba", "y");
        house.confirm(0, 1);
        put(house, 0, "ab", "longer");
        Checks.due("in place of the one kept", house.confirm(0, 1), 2);
        Checks.due("ab", remembered(house, 1, "ab"), "longer");
        Checks.due("ba", remembered(house, 1, "ba"), "y");
    }

    private static void longestAgo() {
        CaptionHouse house = captions(2);
        for (int i = 0; i < 8; i++) {
            put(house, 0, String.valueOf((char) ('a' + i)), "made " + i);
            Checks.due("confirm", house.confirm(0, 1), i + 1);
        }
        put(house, 0, "a", "made anew");
        Checks.due("confirm the first one again", house.confirm(0, 1), 8);
        put(house, 0, "i", "made 8");
        Checks.due("a ninth one", house.confirm(0, 1), 8);
        put(house, 0, "", "");
        Checks.due("the longest ago", remembered(house, 1, "b"), "");
        Checks.due("kept anew", remembered(house, 1, "a"), "made anew");
        Checks.due("kept later", remembered(house, 1, "c"), "made 2");
        Checks.due("the ninth one", remembered(house, 1, "i"), "made 8");
    }

    private static void filledIsUsed() {
        CaptionHouse house = captions(2);
        for (int i = 0; i < 8; i++) {
            put(house, 0, String.valueOf((char) ('a' + i)), "made " + i);
            house.confirm(0, 1);
        }
        Checks.due("filled in", remembered(house, 1, "a"), "made 0");
        put(house, 0, "i", "made 8");
        house.confirm(0, 1);
        Checks.due("filled in, so not gone", remembered(house, 1, "a"), "made 0");
        Checks.due("gone", remembered(house, 1, "b"), "");
    }

    private static void captionsRise() {
        CaptionHouse house = captions(3);
        for (int i = 0; i < 8; i++) {
            put(house, 2, String.valueOf((char) ('a' + i)), "made " + i);
            house.confirm(2, 1);
        }
        put(house, 2, "", "");
        put(house, 0, "b", "");
        put(house, 1, "a", "");
        Checks.due("two at once", house.fill(1), 2);
        for (int i = 0; i < 7; i++) {
            put(house, 2, String.valueOf((char) ('s' + i)), "more " + i);
            house.confirm(2, 1);
        }
        put(house, 2, "", "");
        Checks.due("the caption 1 was the last one", remembered(house, 0, "b") + remembered(house, 0, "a"), "made 0");
    }

    private static void wrongTongues() {
        CaptionHouse house = captions(2);
        put(house, 0, "a", "x");
        house.confirm(0, 1);
        put(house, 1, "a", "");
        for (int wrong : new int[] {-1, 0, 3, Integer.MIN_VALUE, Integer.MAX_VALUE}) {
            Checks.noIndex(house, "fill", () -> house.fill(wrong));
            Checks.noIndex(house, "memory", () -> house.memory(wrong));
        }
        for (int wrong : WRONG) {
            Checks.noIndex(house, "isStale of no tongue", () -> house.isStale(0, wrong));
            Checks.noIndex(house, "isStale of no caption", () -> house.isStale(wrong, 0));
        }
    }
}

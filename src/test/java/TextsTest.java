/** Promises 18 to 25: texts, their widths and rows. */
final class TextsTest {
    private static final int[] WRONG = {-1, 3, Integer.MIN_VALUE, Integer.MAX_VALUE};

    private TextsTest() {
    }

    public static void main(String[] args) {
        type();
        typeRefused();
        codePoints();
        erase();
        signAt();
        widths();
        parts();
        splitBySense();
        splitByWidth();
        notSplit();
        wrongRows();
        setLimits();
        Checks.end("TextsTest");
    }

    private static CaptionHouse house() {
        CaptionHouse house = new CaptionHouse();
        house.addShot(100);
        house.add(0, 50);
        return house;
    }

    private static CaptionHouse typed(String text) {
        CaptionHouse house = house();
        house.setLimits(10, 15);
        Houses.type(house, 0, 0, text);
        return house;
    }

    private static void type() {
        CaptionHouse house = house();
        Checks.due("type", house.type(0, 2, 97), 1);
        Checks.due("type", house.type(0, 2, 98), 2);
        Checks.due("type in another tongue", house.type(0, 1, 99), 1);
        Checks.due("signs", house.signs(0, 0) + " " + house.signs(0, 1) + " " + house.signs(0, 2), "0 1 2");
        for (int i = 2; i < 60; i++) {
            Checks.due("type", house.type(0, 2, 32 + i), i + 1);
        }
        Checks.noState(house, "type a 61st sign", () -> house.type(0, 2, 97));
        Checks.noArgument(house, "type no sign as the 61st", () -> house.type(0, 2, 31));
        Checks.due("signAt(0, 2, 59)", house.signAt(0, 2, 59), 91);
        Checks.due("erase", house.erase(0, 2), 91);
        Checks.due("type", house.type(0, 2, 97), 60);
    }

    private static void typeRefused() {
        CaptionHouse house = house();
        house.letGo(0, 0, CaptionHouse.EMPTY, 5);
        for (int wrong : WRONG) {
            Checks.noIndex(house, "type in no tongue", () -> house.type(0, wrong, 97));
            Checks.noIndex(house, "type no sign in no caption", () -> house.type(wrong, 0, 0));
        }
        for (int sign : new int[] {0, 9, 11, 31, 55296, 57343, 131072, -1, Integer.MIN_VALUE, Integer.MAX_VALUE}) {
            Checks.noArgument(house, "type " + sign, () -> house.type(0, 0, sign));
        }
    }

    private static void codePoints() {
        CaptionHouse house = house();
        int[] signs = {10, 32, 127, 55295, 57344, 65535, 65536, 131071};
        for (int i = 0; i < signs.length; i++) {
            Checks.due("type " + signs[i], house.type(0, 0, signs[i]), i + 1);
            Checks.due("signAt", house.signAt(0, 0, i), signs[i]);
        }
    }

    private static void erase() {
        CaptionHouse house = house();
        Houses.type(house, 0, 1, "ab\n");
        Checks.due("erase", house.erase(0, 1), 10);
        Checks.due("erase", house.erase(0, 1), 98);
        Checks.noState(house, "erase in an empty text", () -> house.erase(0, 0));
        Checks.due("erase", house.erase(0, 1), 97);
        Checks.noState(house, "erase in an empty text", () -> house.erase(0, 1));
        for (int wrong : WRONG) {
            Checks.noIndex(house, "erase in no tongue", () -> house.erase(0, wrong));
            Checks.noIndex(house, "erase in no caption", () -> house.erase(wrong, 0));
        }
    }

    private static void signAt() {
        CaptionHouse house = house();
        Houses.type(house, 0, 0, "xyz");
        Checks.due("signAt", house.signAt(0, 0, 0) + " " + house.signAt(0, 0, 2), "120 122");
        house.erase(0, 0);
        Checks.noIndex(house, "signAt(0, 0, 2)", () -> house.signAt(0, 0, 2));
        Checks.noIndex(house, "signAt(0, 0, -1)", () -> house.signAt(0, 0, -1));
        Checks.noIndex(house, "signAt(0, 1, 0)", () -> house.signAt(0, 1, 0));
        for (int wrong : WRONG) {
            Checks.noIndex(house, "signAt of no tongue", () -> house.signAt(0, wrong, 0));
            Checks.noIndex(house, "signAt of no caption", () -> house.signAt(wrong, 0, 0));
            Checks.noIndex(house, "signs of no tongue", () -> house.signs(0, wrong));
            Checks.noIndex(house, "signs of no caption", () -> house.signs(wrong, 0));
        }
    }

    private static void widths() {
        int[][] dues = {{10, 0}, {32, 1}, {767, 1}, {768, 0}, {879, 0}, {880, 1}, {11903, 1}, {11904, 2},
            {55215, 2}, {55216, 1}, {55295, 1}, {57344, 1}, {65535, 1}, {65536, 2}, {131071, 2}};
        CaptionHouse house = house();
        int sum = 0;
        for (int[] due : dues) {
            sum += due[1];
            house.type(0, 1, due[0]);
            Checks.due("width with " + due[0], house.width(0, 1), sum);
        }
        Checks.due("width of an empty text", house.width(0, 0), 0);
        for (int wrong : WRONG) {
            Checks.noIndex(house, "width of no tongue", () -> house.width(0, wrong));
            Checks.noIndex(house, "width of no caption", () -> house.width(wrong, 0));
        }
    }

    private static void parts() {
        Checks.due("rows of an empty text", Houses.rows(typed("")), "");
        Checks.due("one break", Houses.rows(typed("\n")), "0 101");
        Checks.due("empty parts", Houses.rows(typed("\nab\n\n")), "0 103 404 505");
        Checks.due("short parts", Houses.rows(typed("ab\ncd")), "2 305");
        Checks.due("a part as wide as a row", Houses.rows(typed("abcd fghij")), "10");
        CaptionHouse breaks = typed("\n".repeat(60));
        Checks.due("rows of 60 breaks", breaks.rows(0, 0), 61);
        Checks.due("the last one", breaks.row(0, 0, 60), 6060);
    }

    private static void splitBySense() {
        Checks.due("the middle one", Houses.rows(typed("ab cde fgh ij")), "6 713");
        Checks.due("a comma is dearer to sense", Houses.rows(typed("abc, efg ijk")), "4 512");
        for (String stop : new String[] {".", ",", ";", ":", "!", "?"}) {
            Checks.due("behind " + stop, Houses.rows(typed("ab" + stop + " efgh jklm")), "3 413");
        }
        Checks.due("no stop", Houses.rows(typed("ab- efgh jklm")), "8 913");
        Checks.due("4 more behind a stop is cheaper than 5", Houses.rows(typed("abcdef g, jklm")), "9 1014");
        Checks.due("6 more behind a stop is dearer than 5", Houses.rows(typed("ab, cd efghijk")), "6 714");
        Checks.due("the same cost: the first one", Houses.rows(typed("abcd f hijk")), "4 511");
        Checks.due("each part for itself", Houses.rows(typed("aaaaaa aaaaaa\nbb\nccccc cccccc")), "6 713 1416 1722 2329");
    }

    private static void splitByWidth() {
        CaptionHouse house = house();
        house.setLimits(6, 15);
        Houses.type(house, 0, 0, "\u4e2d\u4e2d \u0301bc\u0301d");
        Checks.due("wide signs", Houses.rows(house), "2 308");
        CaptionHouse marks = house();
        marks.setLimits(5, 15);
        Houses.type(marks, 0, 0, "\u0301 abcde");
        Checks.due("a sign without width", Houses.rows(marks), "1 207");
        CaptionHouse spaces = house();
        spaces.setLimits(5, 15);
        Houses.type(spaces, 0, 0, "  abcd");
        Checks.due("a space alone is a row", Houses.rows(spaces), "1 206");
    }

    private static void notSplit() {
        Checks.due("no space", Houses.rows(typed("abcdefghijk")), "11");
        Checks.due("nothing ahead of it", Houses.rows(typed(" bcdefghijk")), "11");
        Checks.due("nothing behind it", Houses.rows(typed("abcdefghij ")), "11");
        Checks.due("one sign ahead of it", Houses.rows(typed("a cdefghijkl")), "1 212");
        Checks.due("one sign behind it", Houses.rows(typed("abcdefghij l")), "10 1112");
        Checks.due("too wide behind it", Houses.rows(typed("ab defghijklmn")), "14");
        Checks.due("too wide ahead of it", Houses.rows(typed("abcdefghijk mn")), "14");
        Checks.due("both just fit", Houses.rows(typed("abcdefghij lmnopqrstu")), "10 1121");
    }

    private static void wrongRows() {
        CaptionHouse house = typed("ab\ncd");
        Checks.due("rows of one text", house.rows(0, 0), 2);
        Checks.due("rows of another text", house.rows(0, 1), 0);
        Checks.due("a row behind rows of another text", house.row(0, 0, 1), 305);
        Checks.noIndex(house, "row(0, 0, 2)", () -> house.row(0, 0, 2));
        Checks.noIndex(house, "row(0, 0, -1)", () -> house.row(0, 0, -1));
        Checks.noIndex(house, "row(0, 0, MAX)", () -> house.row(0, 0, Integer.MAX_VALUE));
        Checks.noIndex(house, "row(0, 1, 0)", () -> house.row(0, 1, 0));
        for (int wrong : WRONG) {
            Checks.noIndex(house, "row of no tongue", () -> house.row(0, wrong, 0));
            Checks.noIndex(house, "row of no caption", () -> house.row(wrong, 0, 0));
            Checks.noIndex(house, "rows of no tongue", () -> house.rows(0, wrong));
            Checks.noIndex(house, "rows of no caption", () -> house.rows(wrong, 0));
        }
    }

    private static void setLimits() {
        CaptionHouse house = house();
        Houses.type(house, 0, 0, "a".repeat(16) + " " + "b".repeat(16));
        Checks.due("rows at first", house.rows(0, 0), 2);
        house.erase(0, 0);
        Checks.due("rows of a text of width 32", house.rows(0, 0), 1);
        Checks.due("setLimits(5, 50)", house.setLimits(5, 50), 32);
        Checks.due("setLimits(60, 5)", house.setLimits(60, 5), 5);
        int[][] wrong = {{4, 15}, {61, 15}, {32, 4}, {32, 51}, {4, 4}, {Integer.MIN_VALUE, 15}, {32, Integer.MAX_VALUE}};
        for (int[] limits : wrong) {
            Checks.noArgument(house, "setLimits", () -> house.setLimits(limits[0], limits[1]));
        }
        Checks.due("setLimits(32, 15)", house.setLimits(32, 15), 60);
    }
}

/** Promises 34 and 35: both formats. */
final class FormatsTest {
    private FormatsTest() {
    }

    public static void main(String[] args) {
        numbered();
        braced();
        songs();
        order();
        surrogates();
        lateTimes();
        longest();
        refused();
        Checks.end("FormatsTest");
    }

    private static CaptionHouse house(int from, int count, String text) {
        CaptionHouse house = new CaptionHouse();
        house.addShot(400);
        house.add(from, count);
        Houses.type(house, 0, 0, text);
        return house;
    }

    private static String page(CaptionHouse house, int format, int tongue) {
        String page = State.page(house, format, tongue);
        Checks.due("written", house.written(format, tongue), page.length());
        return page;
    }

    private static void numbered() {
        CaptionHouse house = house(0, 24, "one\ntwo");
        Checks.due("two rows", page(house, 0, 0), "1\n0:00:00 > 0:00:24\none\ntwo\n\n");
        Checks.due("another tongue", page(house, 0, 1), "");
        house.setLimits(5, 15);
        Houses.type(house, 0, 2, "abc def");
        Checks.due("a split", page(house, 0, 2), "1\n0:00:00 > 0:00:24\nabc\ndef\n\n");
        house.setLook(0, CaptionHouse.SIGN);
        Checks.due("a SIGN", page(house, 0, 0), "1\n0:00:00 > 0:00:24\none\ntwo\n\n");
        Checks.due("empty rows", page(house(24, 226, "\n"), 0, 0), "1\n0:00:24 > 0:10:00\n\n\n\n");
    }

    private static void braced() {
        CaptionHouse house = house(7, 93, "one\ntwo");
        Checks.due("SPEECH", page(house, 1, 0), "{7}{100}one|two\n");
        house.setLook(0, CaptionHouse.TWO);
        Checks.due("TWO", page(house, 1, 0), "{7}{100}one|two\n");
        house.setLook(0, CaptionHouse.SONG);
        Checks.due("SONG", page(house, 1, 0), "{7}{100}/one|two\n");
        house.setLook(0, CaptionHouse.SIGN);
        Checks.due("SIGN", page(house, 1, 0), "{7}{100}^one|two\n");
        Checks.due("empty rows", page(house(0, 1, "\n\n"), 1, 0), "{0}{1}||\n");
        CaptionHouse split = house(0, 10, "abc, ef");
        split.setLimits(5, 15);
        Checks.due("a split", page(split, 1, 0), "{0}{10}abc,|ef\n");
    }

    private static void songs() {
        CaptionHouse house = house(0, 25, "la");
        house.setLook(0, CaptionHouse.SONG);
        Checks.due("one row", page(house, 0, 0), "1\n0:00:00 > 0:01:00\n\u266a la \u266a\n\n");
        Houses.type(house, 0, 0, "\nli\nlo");
        Checks.due("three rows", page(house, 0, 0), "1\n0:00:00 > 0:01:00\n\u266a la\nli\nlo \u266a\n\n");
    }

    private static void order() {
        CaptionHouse house = house(50, 5, "c");
        for (int from : new int[] {10, 50, 20, 60, 5}) {
            house.add(from, 5);
        }
        Houses.type(house, 1, 0, "a");
        Houses.type(house, 2, 0, "d");
        Houses.type(house, 4, 0, "e");
        Houses.type(house, 5, 0, "b");
        Checks.due("by starts", page(house, 1, 0), "{5}{10}b\n{10}{15}a\n{50}{55}c\n{50}{55}d\n{60}{65}e\n");
        house.cut(10, 5);
        Checks.due("without those that are out", page(house, 0, 0),
            "1\n0:00:05 > 0:00:10\nb\n\n2\n0:01:20 > 0:02:00\nc\n\n3\n0:01:20 > 0:02:00\nd\n\n4\n0:02:05 > 0:02:10\ne\n\n");
    }

    private static void surrogates() {
        CaptionHouse house = house(0, 5, "\ud83d\ude00a\uffff\ud800\udc00\ud83f\udfff");
        Checks.due("surrogates", page(house, 1, 0), "{0}{5}\ud83d\ude00a\uffff\ud800\udc00\ud83f\udfff\n");
    }

    private static void lateTimes() {
        CaptionHouse house = new CaptionHouse();
        for (int i = 0; i < 12; i++) {
            house.addShot(400);
        }
        house.add(4799, 1);
        house.type(0, 0, 'z');
        house.add(1499, 1);
        house.type(1, 0, 'a');
        Checks.due("minutes", page(house, 0, 0), "1\n0:59:24 > 1:00:00\na\n\n2\n3:11:24 > 3:12:00\nz\n\n");
        Checks.due("frames", page(house, 1, 0), "{1499}{1500}a\n{4799}{4800}z\n");
    }

    private static void longest() {
        CaptionHouse house = new CaptionHouse();
        for (int i = 0; i < 12; i++) {
            house.addShot(400);
        }
        StringBuilder due = new StringBuilder();
        for (int i = 0; i < 16; i++) {
            house.add(4000, 250);
            house.setLook(i, CaptionHouse.SONG);
            Houses.type(house, i, 0, "\ud83d\ude00".repeat(60));
            due.append(i + 1).append("\n2:40:00 > 2:50:00\n\u266a ").append("\ud83d\ude00".repeat(60)).append(" \u266a\n\n");
        }
        Checks.due("the longest page", page(house, 0, 0), due);
    }

    private static void refused() {
        CaptionHouse house = house(0, 24, "one");
        Checks.due("a char, before its length is asked for", house.writtenChar(1, 0, 7), 'o');
        Checks.due("a char of the other format", house.writtenChar(0, 0, 0), '1');
        house.erase(0, 0);
        Checks.due("a char of another text", (int) house.writtenChar(1, 0, 9), 10);
        Checks.noIndex(house, "writtenChar of another tongue", () -> house.writtenChar(1, 2, 0));
        int last = house.written(1, 0) - 1;
        Checks.due("the last char", (int) house.writtenChar(1, 0, last), 10);
        for (int index : new int[] {-1, last + 1, Integer.MIN_VALUE, Integer.MAX_VALUE}) {
            Checks.noIndex(house, "writtenChar at " + index, () -> house.writtenChar(1, 0, index));
        }
        Checks.noIndex(house, "writtenChar of an empty page", () -> house.writtenChar(1, 1, 0));
        house.add(0, 24);
        house.type(1, 0, 'x');
        for (int wrong : new int[] {-1, 3, Integer.MIN_VALUE, Integer.MAX_VALUE}) {
            Checks.noArgument(house, "written in no format", () -> house.written(wrong, 0));
            Checks.noArgument(house, "written in no format and tongue", () -> house.written(wrong, wrong));
            Checks.noIndex(house, "written in no tongue", () -> house.written(0, wrong));
            Checks.noArgument(house, "writtenChar in no format", () -> house.writtenChar(wrong, wrong, wrong));
            Checks.noIndex(house, "writtenChar in no tongue", () -> house.writtenChar(1, wrong, 0));
        }
        Checks.noArgument(house, "written in the format 2", () -> house.written(2, 0));
        Checks.noArgument(house, "writtenChar in the format 2", () -> house.writtenChar(2, 0, 0));
    }
}

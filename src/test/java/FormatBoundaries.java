/** The sentences about what is written out: promises 34 and 35, and the terms that they need. */
final class FormatBoundaries {
    private static final int[] NO_FORMATS = {Integer.MIN_VALUE, -1, 2, Integer.MAX_VALUE};
    private static final int[] NO_TONGUES = {Integer.MIN_VALUE, -1, 3, Integer.MAX_VALUE};

    private FormatBoundaries() {
    }

    static void run() {
        terms();
        written();
        chars();
    }

    private static void terms() {
        Sentences.holds("Terms", "All captions that have a time and a text in a tongue that is not empty are written one behind the other,", FormatBoundaries::whichCaptions);
        Sentences.holds("Terms", "by rising starts, those with the same start by rising numbers.", FormatBoundaries::order);
        Sentences.holds("Terms", "A sign is written as one char, or as two surrogates.", FormatBoundaries::surrogates);
        Sentences.holds("Terms", "Format 0: a number from 1 on; a line feed;", FormatBoundaries::numbers);
        Sentences.holds("Terms", "the start, a blank, >, a blank, the end; a line feed;", FormatBoundaries::startAndEnd);
        Sentences.holds("Terms", "each row and a line feed (a SONG has a note, 9834, and a blank ahead of its first row, and a blank and a note behind its last one); a line feed.", FormatBoundaries::rowsAndNotes);
        Sentences.holds("Terms", "A time is told by minutes, a colon, seconds of two digits, a colon, and the frames that are left, of two digits.", FormatBoundaries::times);
        Sentences.holds("Terms", "A second has 25 frames.", FormatBoundaries::times);
        Sentences.holds("Terms", "Format 1: {, the start as a number of frames, }, {, the end, };", FormatBoundaries::braces);
        Sentences.holds("Terms", "/ for a SONG, ^ for a SIGN; the rows, with | between two of them; a line feed.", FormatBoundaries::bars);
    }

    private static void written() {
        Sentences.plain("Promise 34", "Returns the length of what is written out in a format.");
        Sentences.holds("Promise 34", "`format`: 0 or 1", FormatBoundaries::formats);
        Sentences.holds("Promise 34", "`tongue`: 0 to 2", FormatBoundaries::tongues);
        Sentences.holds("Promise 34", "Returns how many chars.", FormatBoundaries::lengths);
        Sentences.holds("Promise 34", "Throws `IllegalArgumentException` if format is out of range", FormatBoundaries::formats);
        Sentences.holds("Promise 34", "Throws `IndexOutOfBoundsException` if there is no such tongue", FormatBoundaries::tongues);
    }

    private static void chars() {
        Sentences.plain("Promise 35", "Returns a char of what is written out in a format.");
        Sentences.holds("Promise 35", "`format`: 0 or 1", FormatBoundaries::charFormats);
        Sentences.holds("Promise 35", "`tongue`: 0 to 2", FormatBoundaries::charTongues);
        Sentences.holds("Promise 35", "`index`: 0 for the first one", FormatBoundaries::charIndexes);
        Sentences.holds("Promise 35", "Returns the char.", FormatBoundaries::surrogates);
        Sentences.holds("Promise 35", "Throws `IllegalArgumentException` if format is out of range", FormatBoundaries::charFormats);
        Sentences.holds("Promise 35", "Throws `IndexOutOfBoundsException` if there is no such tongue, or not so many chars, or index is below 0", FormatBoundaries::noChars);
    }

    /** The chars that are written, as many as are told. */
    private static String page(CaptionHouse house, int format) {
        return State.page(house, format, 0);
    }

    private static CaptionHouse timed(int from, int count) {
        CaptionHouse house = Houses.longest();
        house.add(from, count);
        house.type(0, 0, 'a');
        return house;
    }

    private static CaptionHouse looking(int look, String text) {
        CaptionHouse house = Houses.text(text);
        house.setLook(0, look);
        return house;
    }

    // ---- terms

    private static void whichCaptions() {
        CaptionHouse house = Houses.captions(3);
        Checks.due("no text", page(house, 0) + page(house, 1), "");
        house.type(1, 0, 769);
        Checks.due("a text of one sign without a width", page(house, 1), "{10}{15}\u0301\n");
        house.type(0, 1, 'b');
        house.type(2, 2, 'c');
        Checks.due("the tongue 1", State.page(house, 1, 1), "{0}{5}b\n");
        Checks.due("the tongue 2", State.page(house, 1, 2), "{20}{25}c\n");
        house.cut(10, 4);
        Checks.due("one frame is left", page(house, 1), "{10}{11}\u0301\n");
        house.cut(10, 1);
        Checks.due("none is left", page(house, 1), "");
        house.putBack(0, 10, 1, 0);
        Checks.due("one is back", page(house, 1), "{0}{1}\u0301\n");
        house.erase(1, 0);
        Checks.due("empty", page(house, 1), "");
        Checks.due("a new house", page(new CaptionHouse(), 0) + page(new CaptionHouse(), 1), "");
    }

    private static void order() {
        CaptionHouse house = Houses.film(100);
        int[] starts = {9, 8, 9, 10, 8};
        for (int i = 0; i < starts.length; i++) {
            house.add(starts[i], 1 + i);
            house.type(i, 0, 'a' + i);
        }
        Checks.due("format 1", page(house, 1), "{8}{10}b\n{8}{13}e\n{9}{10}a\n{9}{12}c\n{10}{14}d\n");
        Checks.due("format 0", page(house, 0), "1\n0:00:08 > 0:00:10\nb\n\n2\n0:00:08 > 0:00:13\ne\n\n3\n0:00:09 > 0:00:10\na\n\n"
            + "4\n0:00:09 > 0:00:12\nc\n\n5\n0:00:10 > 0:00:14\nd\n\n");
        house.erase(4, 0);
        Checks.due("without one", page(house, 1), "{8}{10}b\n{9}{10}a\n{9}{12}c\n{10}{14}d\n");
    }

    private static void surrogates() {
        int[] signs = {32, 127, 128, 255, 256, 55295, 57344, 65535, 65536, 65537, 66559, 66560, 131071};
        for (int sign : signs) {
            CaptionHouse house = Houses.text("");
            house.type(0, 0, sign);
            Checks.due("the sign " + sign, page(house, 1), "{0}{250}" + new String(Character.toChars(sign)) + "\n");
        }
        CaptionHouse house = Houses.text("\uffff\ud800\udc00");
        Checks.due("65535, 65536", house.written(1, 0), 8 + 1 + 2 + 1);
        Checks.due("chars", (int) house.writtenChar(1, 0, 8) + " " + (int) house.writtenChar(1, 0, 9) + " " + (int) house.writtenChar(1, 0, 10), "65535 55296 56320");
        Checks.due("131071", (int) Houses.text("\ud83f\udfff").writtenChar(1, 0, 8) + " " + (int) Houses.text("\ud83f\udfff").writtenChar(1, 0, 9), "55359 57343");
    }

    private static void numbers() {
        CaptionHouse house = Houses.captions(16);
        StringBuilder due = new StringBuilder();
        for (int i = 1; i <= 16; i++) {
            house.type(i - 1, 0, 'a');
            int start = 10 * (i - 1);
            due.append(i).append("\n0:0").append(start / 25).append(':').append(start % 25 < 10 ? "0" : "").append(start % 25).append(" > 0:0");
            due.append((start + 5) / 25).append(':').append((start + 5) % 25 < 10 ? "0" : "").append((start + 5) % 25).append("\na\n\n");
        }
        Checks.due("16 of them", page(house, 0), due);
        CaptionHouse last = Houses.captions(16);
        last.type(15, 0, 'a');
        Checks.due("the caption 15 alone", page(last, 0), "1\n0:06:00 > 0:06:05\na\n\n");
    }

    private static void startAndEnd() {
        Checks.due("the first place", page(timed(0, 1), 0), "1\n0:00:00 > 0:00:01\na\n\n");
        Checks.due("the last place", page(timed(4799, 1), 0), "1\n3:11:24 > 3:12:00\na\n\n");
        Checks.due("the longest", page(timed(0, 250), 0), "1\n0:00:00 > 0:10:00\na\n\n");
    }

    private static void times() {
        int[] starts = {0, 1, 9, 10, 24, 25, 26, 49, 50, 249, 250, 1474, 1475, 1499, 1500, 1501, 2999, 3000, 4500, 4798};
        String[] dues = {"0:00:00", "0:00:01", "0:00:09", "0:00:10", "0:00:24", "0:01:00", "0:01:01", "0:01:24", "0:02:00", "0:09:24", "0:10:00",
            "0:58:24", "0:59:00", "0:59:24", "1:00:00", "1:00:01", "1:59:24", "2:00:00", "3:00:00", "3:11:23"};
        for (int i = 0; i < starts.length; i++) {
            String page = page(timed(starts[i], 1), 0);
            Checks.due("the start " + starts[i], page.substring(2, page.indexOf(" > ")), dues[i]);
            if (starts[i] > 0) {
                page = page(timed(starts[i] - 1, 1), 0);
                Checks.due("the end " + starts[i], page.substring(page.indexOf(" > ") + 3, page.indexOf("\na")), dues[i]);
            }
        }
    }

    private static void rowsAndNotes() {
        String head = "1\n0:00:00 > 0:10:00\n";
        String note = "\u266a";
        Checks.due("one row", page(looking(CaptionHouse.SPEECH, "a"), 0), head + "a\n\n");
        Checks.due("two rows of TWO", page(looking(CaptionHouse.TWO, "-a\n-b"), 0), head + "-a\n-b\n\n");
        Checks.due("a SIGN", page(looking(CaptionHouse.SIGN, "a"), 0), head + "a\n\n");
        Checks.due("a SONG of one row", page(looking(CaptionHouse.SONG, "a"), 0), head + note + " a " + note + "\n\n");
        Checks.due("a SONG of two rows", page(looking(CaptionHouse.SONG, "a\nb"), 0), head + note + " a\nb " + note + "\n\n");
        Checks.due("a SONG of three rows", page(looking(CaptionHouse.SONG, "a\n\nb"), 0), head + note + " a\n\nb " + note + "\n\n");
        Checks.due("just a break", page(looking(CaptionHouse.SPEECH, "\n"), 0), head + "\n\n\n");
        Checks.due("a SONG of just a break", page(looking(CaptionHouse.SONG, "\n"), 0), head + note + " \n " + note + "\n\n");
        Checks.due("60 breaks", page(looking(CaptionHouse.SPEECH, "\n".repeat(60)), 0), head + "\n".repeat(61) + "\n");
        CaptionHouse split = looking(CaptionHouse.SONG, "abc def");
        split.setLimits(5, 15);
        Checks.due("a SONG that is split", page(split, 0), head + note + " abc\ndef " + note + "\n\n");
        split.setLimits(7, 15);
        Checks.due("a SONG that is not split", page(split, 0), head + note + " abc def " + note + "\n\n");
        Houses.put(split, 0, 0, "abcdefgh");
        Checks.due("a row too wide", page(split, 0), head + note + " abcdefgh " + note + "\n\n");
    }

    private static void braces() {
        int[][] times = {{0, 1}, {0, 250}, {8, 1}, {9, 1}, {98, 1}, {99, 1}, {998, 1}, {999, 1}, {4550, 250}, {4799, 1}};
        for (int[] time : times) {
            String due = "{" + time[0] + "}{" + (time[0] + time[1]) + "}a\n";
            Checks.due("the time " + time[0] + "+" + time[1], page(timed(time[0], time[1]), 1), due);
        }
    }

    private static void bars() {
        String head = "{0}{250}";
        Checks.due("SPEECH", page(looking(CaptionHouse.SPEECH, "a\nb"), 1), head + "a|b\n");
        Checks.due("TWO", page(looking(CaptionHouse.TWO, "a\nb"), 1), head + "a|b\n");
        Checks.due("SONG", page(looking(CaptionHouse.SONG, "a\nb"), 1), head + "/a|b\n");
        Checks.due("SIGN", page(looking(CaptionHouse.SIGN, "a\nb"), 1), head + "^a|b\n");
        Checks.due("one row", page(looking(CaptionHouse.SONG, "a"), 1), head + "/a\n");
        Checks.due("just a break", page(looking(CaptionHouse.SPEECH, "\n"), 1), head + "|\n");
        Checks.due("a SIGN of just a break", page(looking(CaptionHouse.SIGN, "\n"), 1), head + "^|\n");
        Checks.due("60 breaks", page(looking(CaptionHouse.SPEECH, "\n".repeat(60)), 1), head + "|".repeat(60) + "\n");
        Checks.due("signs that are braces and bars", page(looking(CaptionHouse.SPEECH, "{|}/^"), 1), head + "{|}/^\n");
        CaptionHouse split = looking(CaptionHouse.SIGN, "abc def\nghi");
        split.setLimits(5, 15);
        Checks.due("a split", page(split, 1), head + "^abc|def|ghi\n");
    }

    // ---- written and writtenChar

    private static CaptionHouse one() {
        CaptionHouse house = Houses.text("a");
        house.type(0, 1, 'b');
        house.type(0, 2, 'c');
        return house;
    }

    private static void formats() {
        Bounds.range("written in the format", Bounds.ARGUMENT, FormatBoundaries::one, 0, 1, (house, format) -> house.written(format, 0));
        Bounds.range("written of a new house", Bounds.ARGUMENT, CaptionHouse::new, 0, 1, (house, format) -> house.written(format, 0));
        for (int tongue : NO_TONGUES) {
            Bounds.refused("written in the format", Bounds.ARGUMENT, one(), (house, format) -> house.written(format, tongue), NO_FORMATS);
        }
    }

    private static void tongues() {
        for (int format = 0; format < 2; format++) {
            int in = format;
            Bounds.range("written in the tongue", Bounds.INDEX, FormatBoundaries::one, 0, 2, (house, tongue) -> house.written(in, tongue));
            Bounds.range("written of a new house", Bounds.INDEX, CaptionHouse::new, 0, 2, (house, tongue) -> house.written(in, tongue));
        }
    }

    private static void lengths() {
        Checks.due("a new house", new CaptionHouse().written(0, 0) + " " + new CaptionHouse().written(1, 2), "0 0");
        Checks.due("one sign", one().written(0, 0) + " " + one().written(1, 0), "23 10");
        Checks.due("a SONG", looking(CaptionHouse.SONG, "a").written(0, 0) + " " + looking(CaptionHouse.SONG, "a").written(1, 0), "27 11");
        CaptionHouse full = Houses.longest();
        for (int i = 0; i < 16; i++) {
            full.add(4550, 250);
            full.setLook(i, CaptionHouse.SONG);
            Houses.type(full, i, 0, "\ud83d\ude00".repeat(60));
        }
        Checks.due("as long as it can be, format 0", full.written(0, 0), 16 * (1 + 1 + 17 + 1 + 2 + 120 + 2 + 1 + 1) + 7);
        Checks.due("as long as it can be, format 1", full.written(1, 0), 16 * (6 + 6 + 1 + 120 + 1));
        int last = full.written(0, 0) - 1;
        Checks.due("its last chars", (int) full.writtenChar(0, 0, last - 2) + " " + (int) full.writtenChar(0, 0, last - 1) + " " + (int) full.writtenChar(0, 0, last), "9834 10 10");
        Checks.noIndex(full, "one char more", () -> full.writtenChar(0, 0, last + 1));
    }

    private static void charFormats() {
        Bounds.range("writtenChar in the format", Bounds.ARGUMENT, FormatBoundaries::one, 0, 1, (house, format) -> house.writtenChar(format, 0, 0));
        for (int wrong : new int[] {Integer.MIN_VALUE, -1, 3, 24, Integer.MAX_VALUE}) {
            Bounds.refused("writtenChar in the format", Bounds.ARGUMENT, one(), (house, format) -> house.writtenChar(format, wrong, wrong), NO_FORMATS);
        }
        Bounds.refused("writtenChar of a new house", Bounds.ARGUMENT, new CaptionHouse(), (house, format) -> house.writtenChar(format, 0, 0), NO_FORMATS);
    }

    private static void charTongues() {
        for (int format = 0; format < 2; format++) {
            int in = format;
            Bounds.range("writtenChar in the tongue", Bounds.INDEX, FormatBoundaries::one, 0, 2, (house, tongue) -> house.writtenChar(in, tongue, 0));
        }
        CaptionHouse house = one();
        Checks.due("chars", "" + house.writtenChar(1, 0, 8) + house.writtenChar(1, 1, 8) + house.writtenChar(1, 2, 8), "abc");
    }

    private static void charIndexes() {
        Bounds.range("writtenChar", Bounds.INDEX, FormatBoundaries::one, 0, 22, (house, index) -> house.writtenChar(0, 0, index));
        Bounds.range("writtenChar", Bounds.INDEX, FormatBoundaries::one, 0, 9, (house, index) -> house.writtenChar(1, 0, index));
        CaptionHouse house = one();
        Checks.due("the first ones", "" + house.writtenChar(0, 0, 0) + house.writtenChar(1, 0, 0), "1{");
        Checks.due("the last ones", (int) house.writtenChar(0, 0, 22) + " " + (int) house.writtenChar(1, 0, 9), "10 10");
    }

    private static void noChars() {
        CaptionHouse house = one();
        for (int index : new int[] {Integer.MIN_VALUE, -1, 0, 9, Integer.MAX_VALUE}) {
            Bounds.refused("writtenChar in the tongue", Bounds.INDEX, house, (of, tongue) -> of.writtenChar(0, tongue, index), NO_TONGUES);
        }
        house.erase(0, 1);
        for (int format = 0; format < 2; format++) {
            int in = format;
            Bounds.refused("writtenChar of an empty text", Bounds.INDEX, house, (of, index) -> of.writtenChar(in, 1, index), Integer.MIN_VALUE, -1, 0, 1, Integer.MAX_VALUE);
            Bounds.refused("writtenChar of a new house", Bounds.INDEX, new CaptionHouse(), (of, index) -> of.writtenChar(in, 0, index), -1, 0, 1);
        }
    }
}

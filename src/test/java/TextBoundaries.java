/** The sentences about texts, widths and rows: promises 18 to 25, and the terms that they need. */
final class TextBoundaries {
    private static final int[] NO_TONGUES = {Integer.MIN_VALUE, -1, 3, Integer.MAX_VALUE};
    private static final int[] NO_CAPTIONS = {Integer.MIN_VALUE, -1, 2, 15, 16, Integer.MAX_VALUE};

    private TextBoundaries() {
    }

    static void run() {
        terms();
        rowTerms();
        types();
        erases();
        signsAndWidths();
        rowsAndLimits();
    }

    private static void terms() {
        Sentences.holds("Terms", "There are the tongues 0 to 2; 0 is the first one.", TextBoundaries::tongues);
        Sentences.holds("Terms", "A caption has a text in each tongue, at first empty,", TextBoundaries::atFirst);
        Sentences.holds("Terms", "of at most 60 signs,", TextBoundaries::fullText);
        Sentences.holds("Terms", "each told by its Unicode code point: 10 for a break, or 32 and more (but none from 55296 to 57343), up to 131071.", TextBoundaries::codePoints);
        Sentences.holds("Terms", "The width of a sign is 0 for a break, and from 768 to 879; 2 from 11904 to 55215, and from 65536 on; otherwise 1.", TextBoundaries::signWidths);
        Sentences.holds("Terms", "The width of a text is that of all its signs.", TextBoundaries::textWidths);
    }

    private static void rowTerms() {
        Sentences.holds("Terms", "Rows. The breaks divide a text into parts, one more than there are breaks;", TextBoundaries::parts);
        Sentences.holds("Terms", "an empty text has no rows.", TextBoundaries::noRows);
        Sentences.holds("Terms", "A part whose width is at most the row width, 32 at first, is a row.", TextBoundaries::asWideAsARow);
        Sentences.holds("Terms", "A wider part is split at a space (32) into two rows, those ahead of it and those behind it,", TextBoundaries::splitAtSpaces);
        Sentences.holds("Terms", "if there is a space by which both have a sign,", TextBoundaries::bothHaveASign);
        Sentences.holds("Terms", "and are at most as wide as the row width:", TextBoundaries::bothFit);
        Sentences.holds("Terms", "of several such spaces, the one with the least cost, of these the first one.", TextBoundaries::leastCost);
        Sentences.holds("Terms", "The cost is the difference of both widths, without sign,", TextBoundaries::difference);
        Sentences.holds("Terms", "and 5 more, unless the sign right ahead of the space is one of . , ; : ! ? (46, 44, 59, 58, 33, 63).", TextBoundaries::fiveMore);
        Sentences.holds("Terms", "The space is in neither row.", TextBoundaries::inNeitherRow);
        Sentences.holds("Terms", "A part that cannot be split so is a row, too wide.", TextBoundaries::tooWide);
    }

    private static void types() {
        Sentences.plain("Promise 18", "Types a sign at the end of a text.");
        Sentences.holds("Promise 18", "`caption`: a caption", TextBoundaries::typeCaption);
        Sentences.holds("Promise 18", "`tongue`: 0 to 2", TextBoundaries::typeTongue);
        Sentences.holds("Promise 18", "`sign`: its code point", TextBoundaries::codePoints);
        Sentences.holds("Promise 18", "Returns how many signs the text has then.", TextBoundaries::fullText);
        Sentences.holds("Promise 18", "Throws `IndexOutOfBoundsException` if there is no such caption or tongue", TextBoundaries::typeNowhere);
        Sentences.holds("Promise 18", "Throws `IllegalArgumentException` if sign is no such code point", TextBoundaries::noCodePoints);
        Sentences.holds("Promise 18", "Throws `IllegalStateException` if the text has 60", TextBoundaries::oneSignMore);
    }

    private static void erases() {
        Sentences.plain("Promise 19", "Erases the last sign of a text.");
        Sentences.holds("Promise 19", "`caption`: a caption", TextBoundaries::eraseCaption);
        Sentences.holds("Promise 19", "`tongue`: 0 to 2", TextBoundaries::eraseTongue);
        Sentences.holds("Promise 19", "Returns the sign.", TextBoundaries::erased);
        Sentences.holds("Promise 19", "Throws `IndexOutOfBoundsException` if there is no such caption or tongue", TextBoundaries::eraseNowhere);
        Sentences.holds("Promise 19", "Throws `IllegalStateException` if the text is empty", TextBoundaries::eraseNothing);
    }

    private static void signsAndWidths() {
        Sentences.holds("Promise 20", "Returns how many signs a text has.", TextBoundaries::signCounts);
        Sentences.holds("Promise 20", "`caption`: a caption `tongue`: 0 to 2", TextBoundaries::signsOfTexts);
        Sentences.holds("Promise 20", "Throws `IndexOutOfBoundsException` if there is no such caption or tongue", TextBoundaries::signsOfTexts);
        Sentences.plain("Promise 21", "Returns a sign of a text.");
        Sentences.holds("Promise 21", "`caption`: a caption `tongue`: 0 to 2", TextBoundaries::signAtTexts);
        Sentences.holds("Promise 21", "`index`: 0 for the first one", TextBoundaries::signIndexes);
        Sentences.holds("Promise 21", "Returns its code point.", TextBoundaries::codePoints);
        Sentences.holds("Promise 21", "Throws `IndexOutOfBoundsException` if there is no such caption, tongue or sign", TextBoundaries::signAtNowhere);
        Sentences.holds("Promise 22", "Returns the width of a text.", TextBoundaries::textWidths);
        Sentences.holds("Promise 22", "`caption`: a caption `tongue`: 0 to 2", TextBoundaries::widthsOfTexts);
        Sentences.holds("Promise 22", "Throws `IndexOutOfBoundsException` if there is no such caption or tongue", TextBoundaries::widthsOfTexts);
    }

    private static void rowsAndLimits() {
        Sentences.holds("Promise 23", "Returns how many rows a text has.", TextBoundaries::rowCounts);
        Sentences.holds("Promise 23", "`caption`: a caption `tongue`: 0 to 2", TextBoundaries::rowsOfTexts);
        Sentences.holds("Promise 23", "Throws `IndexOutOfBoundsException` if there is no such caption or tongue", TextBoundaries::rowsOfTexts);
        Sentences.plain("Promise 24", "Returns which signs a row has.");
        Sentences.holds("Promise 24", "`caption`: a caption `tongue`: 0 to 2", TextBoundaries::rowOfTexts);
        Sentences.holds("Promise 24", "`row`: 0 for the first one", TextBoundaries::rowNumbers);
        Sentences.holds("Promise 24", "Returns 100 times the index of its first sign (or at which it would be, if the row is empty), and the index behind its last one, added.", TextBoundaries::rowEnds);
        Sentences.holds("Promise 24", "Throws `IndexOutOfBoundsException` if there is no such caption, tongue or row", TextBoundaries::noSuchRows);
        Sentences.plain("Promise 25", "Sets the row width and the reading speed.");
        Sentences.holds("Promise 25", "`width`: 5 to 60", TextBoundaries::widthLimits);
        Sentences.holds("Promise 25", "`speed`: 5 to 50", TextBoundaries::speedLimits);
        Sentences.holds("Promise 25", "Returns the row width before.", TextBoundaries::widthBefore);
        Sentences.holds("Promise 25", "Throws `IllegalArgumentException` if width or speed is out of range", TextBoundaries::wrongLimits);
    }

    private static CaptionHouse two() {
        CaptionHouse house = Houses.captions(2);
        Houses.type(house, 0, 0, "ab\ncd");
        Houses.type(house, 1, 2, "ef");
        return house;
    }

    /** A text in the tongue 0 with the row width 10. */
    private static CaptionHouse narrow(String text) {
        CaptionHouse house = Houses.text(text);
        house.setLimits(10, 15);
        return house;
    }

    private static String narrowRows(String text) {
        return Houses.rows(narrow(text));
    }

    private static String some(int count) {
        return "a".repeat(count);
    }

    // ---- terms

    private static void tongues() {
        Bounds.range("type in", Bounds.INDEX, TextBoundaries::two, 0, 2, (house, tongue) -> house.type(0, tongue, 'a'));
        CaptionHouse house = Houses.captions(1);
        for (int tongue = 0; tongue < 3; tongue++) {
            house.type(0, tongue, 'a' + tongue);
        }
        Checks.due("three texts", Houses.text(house, 0, 0) + Houses.text(house, 0, 1) + Houses.text(house, 0, 2), "abc");
        house.type(0, 0, 'x');
        Checks.due("the tongue 0 makes the others stale", house.isStale(0, 0) + " " + house.isStale(0, 1) + " " + house.isStale(0, 2), "false true true");
        house.type(0, 1, 'x');
        Checks.due("the tongue 1 makes none stale", house.isStale(0, 0) + " " + house.isStale(0, 1) + " " + house.isStale(0, 2), "false false true");
    }

    private static void atFirst() {
        CaptionHouse house = Houses.captions(16);
        for (int caption = 0; caption < 16; caption++) {
            for (int tongue = 0; tongue < 3; tongue++) {
                Checks.due("signs", house.signs(caption, tongue), 0);
            }
        }
    }

    private static void fullText() {
        CaptionHouse house = Houses.captions(1);
        for (int signs = 1; signs <= 60; signs++) {
            Checks.due("type", house.type(0, 1, 100 + signs), signs);
        }
        Checks.noState(house, "the 61st sign", () -> house.type(0, 1, 'a'));
        Checks.due("the last sign", house.signAt(0, 1, 59), 160);
        Checks.due("another text", house.type(0, 0, 'a') + " " + house.type(0, 2, 'a'), "1 1");
    }

    private static void codePoints() {
        CaptionHouse house = Houses.captions(1);
        int[] signs = {10, 32, 33, 126, 127, 128, 55294, 55295, 57344, 57345, 65535, 65536, 131070, 131071};
        for (int i = 0; i < signs.length; i++) {
            Checks.due("type " + signs[i], house.type(0, 0, signs[i]) + " " + house.signAt(0, 0, i), (i + 1) + " " + signs[i]);
        }
        noCodePoints();
    }

    private static void noCodePoints() {
        CaptionHouse house = two();
        int[] wrong = {Integer.MIN_VALUE, -1, 0, 9, 11, 13, 31, 55296, 55297, 57342, 57343, 131072, 1114111, Integer.MAX_VALUE};
        Bounds.refused("type", Bounds.ARGUMENT, house, (of, sign) -> of.type(0, 0, sign), wrong);
        CaptionHouse full = Houses.text(some(60));
        Bounds.refused("type behind 60", Bounds.ARGUMENT, full, (of, sign) -> of.type(0, 0, sign), 9, 11, 31, 55296, 57343, 131072);
    }

    private static void signWidths() {
        int[][] dues = {{10, 0}, {32, 1}, {767, 1}, {768, 0}, {769, 0}, {878, 0}, {879, 0}, {880, 1}, {11903, 1}, {11904, 2}, {11905, 2},
            {55214, 2}, {55215, 2}, {55216, 1}, {55295, 1}, {57344, 1}, {65535, 1}, {65536, 2}, {65537, 2}, {131071, 2}};
        for (int[] due : dues) {
            CaptionHouse house = Houses.text("");
            house.type(0, 0, due[0]);
            Checks.due("width of " + due[0], house.width(0, 0), due[1]);
        }
    }

    private static void textWidths() {
        CaptionHouse house = Houses.text("");
        Checks.due("an empty text", house.width(0, 0), 0);
        Houses.type(house, 0, 0, "a\u4e2d\u0301\n ");
        Checks.due("one of each", house.width(0, 0), 4);
        house.erase(0, 0);
        Checks.due("without the blank", house.width(0, 0), 3);
        Checks.due("60 of width 2", Houses.text("\ud83d\ude00".repeat(60)).width(0, 0), 120);
        Checks.due("60 of width 1", Houses.text(some(60)).width(0, 0), 60);
        Checks.due("60 of width 0", Houses.text("\u0301".repeat(60)).width(0, 0), 0);
        Checks.due("60 breaks", Houses.text("\n".repeat(60)).width(0, 0), 0);
    }

    // ---- rows

    private static void parts() {
        Checks.due("no break", narrowRows("a"), "1");
        Checks.due("one break", narrowRows("\n"), "0 101");
        Checks.due("a break at the start", narrowRows("\na"), "0 102");
        Checks.due("a break at the end", narrowRows("a\n"), "1 202");
        Checks.due("two breaks", narrowRows("\n\n"), "0 101 202");
        Checks.due("59 breaks", narrow("\n".repeat(59)).rows(0, 0), 60);
        CaptionHouse full = narrow("\n".repeat(60));
        Checks.due("60 breaks", full.rows(0, 0) + " " + full.row(0, 0, 59) + " " + full.row(0, 0, 60), "61 5959 6060");
    }

    private static void noRows() {
        CaptionHouse house = Houses.text("");
        Checks.due("no sign", house.rows(0, 0), 0);
        Checks.noIndex(house, "row 0", () -> house.row(0, 0, 0));
        house.type(0, 0, 769);
        Checks.due("one sign without a width", house.rows(0, 0), 1);
        house.erase(0, 0);
        Checks.due("empty again", house.rows(0, 0), 0);
    }

    private static void asWideAsARow() {
        String half = some(15) + " " + some(15);
        Checks.due("31 of 32 at first", Houses.rows(Houses.text(half)), "31");
        Checks.due("32 of 32 at first", Houses.rows(Houses.text(half + "a")), "32");
        Checks.due("33 of 32 at first", Houses.rows(Houses.text(half + "aa")), "15 1633");
        Checks.due("9 of 10", narrowRows("abcd efgh"), "9");
        Checks.due("10 of 10", narrowRows("abcd efghi"), "10");
        Checks.due("11 of 10", narrowRows("abcd efghij"), "4 511");
        Checks.due("10 of 10 by wide signs", narrowRows("\u4e2d\u4e2d \u4e2d\u4e2da"), "6");
        Checks.due("11 of 10 by wide signs", narrowRows("\u4e2d\u4e2d \u4e2d\u4e2d\u4e2d"), "2 306");
        Checks.due("10 of 10 and signs without a width", narrowRows("abcd\u0301 e\u0301fghi"), "12");
        CaptionHouse least = Houses.text("ab de");
        least.setLimits(5, 15);
        Checks.due("5 of 5", Houses.rows(least), "5");
        least.type(0, 0, 'f');
        Checks.due("6 of 5", Houses.rows(least), "2 306");
        CaptionHouse greatest = Houses.text(some(29) + " " + some(30));
        greatest.setLimits(60, 15);
        Checks.due("60 of 60", Houses.rows(greatest), "60");
        Houses.put(greatest, 0, 0, some(29) + " " + some(29) + "\u4e2d");
        Checks.due("61 of 60", Houses.rows(greatest), "29 3060");
    }

    private static void splitAtSpaces() {
        Checks.due("a space", narrowRows("abcdef hijkl"), "6 712");
        Checks.due("31", Checks.outcome(() -> narrow("abcdef" + (char) 31 + "hijkl")), Bounds.ARGUMENT);
        Checks.due("33", narrowRows("abcdef!hijkl"), "12");
        Checks.due("a space of width 1, but 160", narrowRows("abcdef\u00a0hijkl"), "12");
        Checks.due("into two rows, not three", narrowRows("abcdefghij klmnop qrst"), "22");
        Checks.due("each part for itself", narrowRows("abcdef hijkl\nn\npqrstu wxyzab"), "6 712 1314 1521 2228");
    }

    private static void bothHaveASign() {
        Checks.due("none ahead", narrowRows(" bcdefghijk"), "11");
        Checks.due("one ahead", narrowRows("a cdefghijkl"), "1 212");
        Checks.due("none behind", narrowRows("abcdefghij "), "11");
        Checks.due("one behind", narrowRows("abcdefghij l"), "10 1112");
        Checks.due("one without a width ahead", narrowRows("\u0301 cdefghijkl"), "1 212");
        Checks.due("one without a width behind", narrowRows("abcdefghij \u0301"), "10 1112");
        Checks.due("none behind the break ahead", narrowRows("z\n bcdefghijk"), "1 213");
        Checks.due("none ahead of the break behind", narrowRows("abcdefghij \nz"), "11 1213");
        Checks.due("spaces ahead", narrowRows("  cdefghijkl"), "1 212");
        Checks.due("spaces behind", narrowRows("abcdefghij  "), "10 1112");
        Checks.due("spaces alone", narrowRows(" ".repeat(11)), "5 611");
    }

    private static void bothFit() {
        Checks.due("10 ahead, 10 behind", narrowRows(some(10) + " " + some(10)), "10 1121");
        Checks.due("10 ahead, 9 behind", narrowRows(some(10) + " " + some(9)), "10 1120");
        Checks.due("11 ahead, 9 behind", narrowRows(some(11) + " " + some(9)), "21");
        Checks.due("9 ahead, 10 behind", narrowRows(some(9) + " " + some(10)), "9 1020");
        Checks.due("9 ahead, 11 behind", narrowRows(some(9) + " " + some(11)), "21");
        Checks.due("11 ahead by a wide sign", narrowRows(some(9) + "\u4e2d " + some(5)), "16");
        Checks.due("10 ahead by a wide sign", narrowRows(some(8) + "\u4e2d " + some(5)), "9 1015");
        Checks.due("the cheaper one does not fit behind it", narrowRows("a, c efghijklm"), "4 514");
        Checks.due("the cheaper one does not fit ahead of it", narrowRows("abcdefgh j, mnopqrs"), "8 919");
        Checks.due("the cheaper one just fits", narrowRows("abcdefg i, lmnopqrs"), "10 1119");
        CaptionHouse first = Houses.text(some(32) + " " + some(27));
        Checks.due("32 ahead of 32 at first", Houses.rows(first), "32 3360");
        Houses.put(first, 0, 0, some(33) + " " + some(26));
        Checks.due("33 ahead of 32 at first", Houses.rows(first), "60");
    }

    private static void leastCost() {
        Checks.due("the first of two with the same cost", narrowRows("abcd f hijk"), "4 511");
        Checks.due("the second one is cheaper by 1", narrowRows("abcdef g, jklm"), "9 1014");
        Checks.due("the first one is cheaper by 1", narrowRows("abc, f hijklmn"), "4 514");
        Checks.due("the last of three", narrowRows("a c ef hijkl"), "6 712");
        Checks.due("the middle one of three", narrowRows("a cdef hijk m"), "6 713");
        Checks.due("the first of three", narrowRows("abcdef hi k m"), "6 713");
        Checks.due("two with the same cost, both behind a stop", narrowRows("abc, f, hijk"), "4 512");
    }

    private static void difference() {
        Checks.due("0 and 2", narrowRows("abcde ghijk"), "5 611");
        Checks.due("wide signs count 2", narrowRows("\u4e2d\u4e2d a bcdefg"), "4 511");
        Checks.due("4 behind, or 2 ahead", narrowRows("abcd fg ijklm"), "7 813");
        Checks.due("2 behind, or 4 ahead", narrowRows("abcde gh jklm"), "5 613");
        Checks.due("4 behind, or 4 ahead", narrowRows("abcd fgh jklm"), "4 513");
    }

    private static void fiveMore() {
        int[] stops = {46, 44, 59, 58, 33, 63};
        for (int stop : stops) {
            Checks.due("behind " + stop, narrowRows("ab" + (char) stop + " efgh jklm"), "3 413");
        }
        for (int other : new int[] {32, 34, 43, 45, 47, 57, 60, 62, 64, 41}) {
            Checks.due("behind " + other, narrowRows("ab" + (char) other + " efgh jklm"), "8 913");
        }
        Checks.due("4 more behind a stop", narrowRows("abcdef g, jklm"), "9 1014");
        Checks.due("4 more behind a stop that is ahead", narrowRows("abc, f hijklmn"), "4 514");
        Checks.due("6 more behind a stop", narrowRows("ab, cd efghijk"), "6 714");
        Checks.due("the sign right ahead, not one earlier", narrowRows("a.b efgh jklm"), "8 913");
        Checks.due("the sign ahead, not behind", narrowRows("abc .fgh jklm"), "8 913");
    }

    private static void inNeitherRow() {
        Checks.due("the signs around it", narrowRows("abcdef hijkl"), "6 712");
        Checks.due("one of three spaces", narrowRows("abcde   ijklm"), "6 713");
        CaptionHouse house = narrow("abcdef hijkl");
        Checks.due("as it is written", State.page(house, 1, 0), "{0}{250}abcdef|hijkl\n");
    }

    private static void tooWide() {
        Checks.due("no space", narrowRows(some(11)), "11");
        Checks.due("60 signs without a space", narrowRows(some(60)), "60");
        Checks.due("60 spaces", narrowRows(" ".repeat(60)), "60");
        Checks.due("21 spaces", narrowRows(" ".repeat(21)), "10 1121");
        Checks.due("22 spaces", narrowRows(" ".repeat(22)), "22");
        CaptionHouse house = narrow(some(10));
        Checks.due("not too wide", Houses.breaks(house, 0, 0, CaptionHouse.WIDE), false);
        house.type(0, 0, 'a');
        Checks.due("too wide", Houses.breaks(house, 0, 0, CaptionHouse.WIDE), true);
    }

    // ---- type and erase

    private static void typeCaption() {
        Bounds.range("type in the caption", Bounds.INDEX, TextBoundaries::two, 0, 1, (house, caption) -> house.type(caption, 0, 'a'));
        Bounds.range("type in the caption", Bounds.INDEX, () -> Houses.captions(16), 0, 15, (house, caption) -> house.type(caption, 2, 'a'));
        CaptionHouse house = Houses.captions(16);
        house.type(15, 2, 'a');
        Checks.due("the texts beside it", house.signs(14, 2) + " " + house.signs(15, 1) + " " + house.signs(15, 2), "0 0 1");
    }

    private static void typeTongue() {
        Bounds.range("type in the tongue", Bounds.INDEX, TextBoundaries::two, 0, 2, (house, tongue) -> house.type(1, tongue, 'a'));
    }

    private static void typeNowhere() {
        CaptionHouse house = two();
        for (int sign : new int[] {'a', 31, -1, 131072}) {
            Bounds.refused("type in the caption", Bounds.INDEX, house, (of, caption) -> of.type(caption, 0, sign), NO_CAPTIONS);
            Bounds.refused("type in the tongue", Bounds.INDEX, house, (of, tongue) -> of.type(0, tongue, sign), NO_TONGUES);
        }
    }

    private static void oneSignMore() {
        CaptionHouse house = Houses.text(some(59));
        Checks.due("the 60th", house.type(0, 0, 'b'), 60);
        Bounds.refused("the 61st", Bounds.STATE, house, (of, sign) -> of.type(0, 0, sign), 10, 32, 131071);
        Checks.due("erase", house.erase(0, 0), (int) 'b');
        Checks.due("the 60th again", house.type(0, 0, 'c') + " " + house.signAt(0, 0, 59), "60 99");
    }

    private static void eraseCaption() {
        Bounds.refused("erase in the caption", Bounds.INDEX, two(), (house, caption) -> house.erase(caption, 0), NO_CAPTIONS);
        CaptionHouse house = Houses.captions(16);
        house.type(0, 0, 'a');
        house.type(15, 0, 'b');
        Checks.due("the first and the last one", house.erase(0, 0) + " " + house.erase(15, 0), "97 98");
        Bounds.refused("erase in the caption", Bounds.INDEX, house, (of, caption) -> of.erase(caption, 0), -1, 16);
    }

    private static void eraseTongue() {
        CaptionHouse house = Houses.captions(1);
        house.type(0, 0, 'a');
        house.type(0, 2, 'b');
        Bounds.refused("erase in the tongue", Bounds.INDEX, house, (of, tongue) -> of.erase(0, tongue), NO_TONGUES);
        Checks.due("the first and the last one", house.erase(0, 0) + " " + house.erase(0, 2), "97 98");
    }

    private static void erased() {
        CaptionHouse house = Houses.text("\n \ud83f\udfff");
        Checks.due("the greatest sign", house.erase(0, 0), 131071);
        Checks.due("a blank", house.erase(0, 0), 32);
        Checks.due("a break, the only sign", house.erase(0, 0), 10);
        CaptionHouse full = Houses.text(some(59) + "b");
        Checks.due("the 60th", full.erase(0, 0) + " " + full.signs(0, 0), "98 59");
    }

    private static void eraseNowhere() {
        CaptionHouse house = Houses.captions(2);
        Bounds.refused("erase in the caption", Bounds.INDEX, house, (of, caption) -> of.erase(caption, 0), NO_CAPTIONS);
        Bounds.refused("erase in the tongue", Bounds.INDEX, house, (of, tongue) -> of.erase(0, tongue), NO_TONGUES);
    }

    private static void eraseNothing() {
        CaptionHouse house = Houses.text("a");
        Checks.noState(house, "at first", () -> house.erase(0, 1));
        Checks.due("the only sign", house.erase(0, 0), 97);
        Checks.noState(house, "empty again", () -> house.erase(0, 0));
    }

    // ---- signs, signAt and width

    private static void signCounts() {
        CaptionHouse house = Houses.text("");
        Checks.due("empty", house.signs(0, 0), 0);
        house.type(0, 0, 'a');
        Checks.due("one", house.signs(0, 0), 1);
        Checks.due("60", Houses.text(some(60)).signs(0, 0), 60);
        Checks.due("60 from 65536 on", Houses.text("\ud83d\ude00".repeat(60)).signs(0, 0), 60);
    }

    private static void signsOfTexts() {
        Bounds.range("signs of the caption", Bounds.INDEX, TextBoundaries::two, 0, 1, (house, caption) -> house.signs(caption, 0));
        Bounds.range("signs of the tongue", Bounds.INDEX, TextBoundaries::two, 0, 2, (house, tongue) -> house.signs(1, tongue));
        Bounds.refused("signs", Bounds.INDEX, new CaptionHouse(), (house, caption) -> house.signs(caption, 0), -1, 0, 1);
    }

    private static void signAtTexts() {
        CaptionHouse house = two();
        for (int tongue = 0; tongue < 3; tongue++) {
            Houses.put(house, 1, tongue, "x");
        }
        Bounds.range("signAt of the caption", Bounds.INDEX, () -> house, 0, 1, (of, caption) -> of.signAt(caption, 0, 0));
        Bounds.range("signAt of the tongue", Bounds.INDEX, () -> house, 0, 2, (of, tongue) -> of.signAt(1, tongue, 0));
    }

    private static void signIndexes() {
        Bounds.range("signAt", Bounds.INDEX, () -> Houses.text("abc"), 0, 2, (house, index) -> house.signAt(0, 0, index));
        Bounds.range("signAt", Bounds.INDEX, () -> Houses.text(some(60)), 0, 59, (house, index) -> house.signAt(0, 0, index));
        Checks.due("the first and the last one", Houses.text("abc").signAt(0, 0, 0) + " " + Houses.text("abc").signAt(0, 0, 2), "97 99");
    }

    private static void signAtNowhere() {
        CaptionHouse house = two();
        Bounds.refused("signAt of the caption", Bounds.INDEX, house, (of, caption) -> of.signAt(caption, 0, 0), NO_CAPTIONS);
        Bounds.refused("signAt of the tongue", Bounds.INDEX, house, (of, tongue) -> of.signAt(0, tongue, 0), NO_TONGUES);
        Bounds.refused("signAt in an empty text", Bounds.INDEX, house, (of, index) -> of.signAt(0, 1, index), Integer.MIN_VALUE, -1, 0, 1, Integer.MAX_VALUE);
        house.erase(0, 0);
        Bounds.refused("signAt where a sign was", Bounds.INDEX, house, (of, index) -> of.signAt(0, 0, index), 4, 5);
    }

    private static void widthsOfTexts() {
        Bounds.range("width of the caption", Bounds.INDEX, TextBoundaries::two, 0, 1, (house, caption) -> house.width(caption, 0));
        Bounds.range("width of the tongue", Bounds.INDEX, TextBoundaries::two, 0, 2, (house, tongue) -> house.width(1, tongue));
        Bounds.refused("width", Bounds.INDEX, new CaptionHouse(), (house, caption) -> house.width(caption, 0), -1, 0, 1);
    }

    // ---- rows, row and setLimits

    private static void rowCounts() {
        Checks.due("empty", Houses.text("").rows(0, 0), 0);
        Checks.due("one", Houses.text("a").rows(0, 0), 1);
        Checks.due("61", Houses.text("\n".repeat(60)).rows(0, 0), 61);
        Checks.due("another text", two().rows(0, 1), 0);
    }

    private static void rowsOfTexts() {
        Bounds.range("rows of the caption", Bounds.INDEX, TextBoundaries::two, 0, 1, (house, caption) -> house.rows(caption, 0));
        Bounds.range("rows of the tongue", Bounds.INDEX, TextBoundaries::two, 0, 2, (house, tongue) -> house.rows(1, tongue));
        Bounds.refused("rows", Bounds.INDEX, new CaptionHouse(), (house, caption) -> house.rows(caption, 0), -1, 0, 1);
    }

    private static void rowOfTexts() {
        CaptionHouse house = two();
        for (int tongue = 0; tongue < 3; tongue++) {
            Houses.put(house, 1, tongue, "x");
        }
        Bounds.range("row of the caption", Bounds.INDEX, () -> house, 0, 1, (of, caption) -> of.row(caption, 0, 0));
        Bounds.range("row of the tongue", Bounds.INDEX, () -> house, 0, 2, (of, tongue) -> of.row(1, tongue, 0));
    }

    private static void rowNumbers() {
        Bounds.range("row", Bounds.INDEX, () -> Houses.text("a"), 0, 0, (house, row) -> house.row(0, 0, row));
        Bounds.range("row", Bounds.INDEX, () -> Houses.text("a\nb"), 0, 1, (house, row) -> house.row(0, 0, row));
        Bounds.range("row", Bounds.INDEX, () -> narrow("abcdef hijkl"), 0, 1, (house, row) -> house.row(0, 0, row));
        Bounds.range("row", Bounds.INDEX, () -> Houses.text("\n".repeat(60)), 0, 60, (house, row) -> house.row(0, 0, row));
    }

    private static void rowEnds() {
        Checks.due("the first sign alone", narrowRows("a"), "1");
        Checks.due("empty rows", narrowRows("\n\na\n"), "0 101 203 404");
        Checks.due("all 60 signs", Houses.text(some(60)).row(0, 0, 0), 60);
        Checks.due("the last sign alone", Houses.text(some(58) + "\na").row(0, 0, 1), 5960);
        Checks.due("an empty row behind 60", Houses.text(some(59) + "\n").row(0, 0, 1), 6060);
        Checks.due("an empty row ahead of 59", Houses.text("\n" + some(59)).row(0, 0, 0) + " " + Houses.text("\n" + some(59)).row(0, 0, 1), "0 160");
    }

    private static void noSuchRows() {
        CaptionHouse house = two();
        Bounds.refused("row of the caption", Bounds.INDEX, house, (of, caption) -> of.row(caption, 0, 0), NO_CAPTIONS);
        Bounds.refused("row of the tongue", Bounds.INDEX, house, (of, tongue) -> of.row(0, tongue, 0), NO_TONGUES);
        Bounds.refused("row of an empty text", Bounds.INDEX, house, (of, row) -> of.row(0, 1, row), Integer.MIN_VALUE, -1, 0, 1, Integer.MAX_VALUE);
        Bounds.refused("row", Bounds.INDEX, house, (of, row) -> of.row(0, 0, row), -1, 2);
        house.erase(0, 0);
        house.erase(0, 0);
        house.erase(0, 0);
        Bounds.refused("row where one was", Bounds.INDEX, house, (of, row) -> of.row(0, 0, row), -1, 1);
    }

    private static void widthLimits() {
        Bounds.range("the row width", Bounds.ARGUMENT, TextBoundaries::two, 5, 60, (house, width) -> house.setLimits(width, 15));
    }

    private static void speedLimits() {
        Bounds.range("the reading speed", Bounds.ARGUMENT, TextBoundaries::two, 5, 50, (house, speed) -> house.setLimits(32, speed));
        CaptionHouse house = Houses.film(50);
        house.add(0, 5);
        Houses.type(house, 0, 0, "ab");
        Checks.due("50 of 75 at first", Houses.breaks(house, 0, 0, CaptionHouse.FAST), false);
        house.setLimits(32, 5);
        Checks.due("50 of 25", Houses.breaks(house, 0, 0, CaptionHouse.FAST), true);
        house.setLimits(32, 50);
        Houses.put(house, 0, 0, some(10));
        Checks.due("250 of 250", Houses.breaks(house, 0, 0, CaptionHouse.FAST), false);
        house.setLimits(32, 49);
        Checks.due("250 of 245", Houses.breaks(house, 0, 0, CaptionHouse.FAST), true);
    }

    private static void widthBefore() {
        CaptionHouse house = new CaptionHouse();
        Checks.due("at first", house.setLimits(5, 50), 32);
        Checks.due("the least", house.setLimits(60, 5), 5);
        Checks.due("the greatest", house.setLimits(60, 5), 60);
        Bounds.refused("a width", Bounds.ARGUMENT, house, (of, width) -> of.setLimits(width, 6), 4, 61);
        Checks.due("behind refused ones", house.setLimits(32, 15), 60);
    }

    private static void wrongLimits() {
        CaptionHouse house = narrow("abcdef hijkl");
        for (int wrong : new int[] {Integer.MIN_VALUE, -1, 0, 4, 61, Integer.MAX_VALUE}) {
            Bounds.refused("a width with the speed " + wrong, Bounds.ARGUMENT, house, (of, width) -> of.setLimits(width, wrong), 4, 5, 60, 61);
            Bounds.refused("a speed with the width " + wrong, Bounds.ARGUMENT, house, (of, speed) -> of.setLimits(wrong, speed), 4, 5, 50, 51);
        }
        Checks.noArgument(house, "51 as a speed", () -> house.setLimits(32, 51));
        Checks.due("the row width before", house.setLimits(10, 15), 10);
    }
}

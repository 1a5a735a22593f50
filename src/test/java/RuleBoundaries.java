/** The sentences about rules and names: promises 30 to 33, and the terms that they need. */
final class RuleBoundaries {
    private static final int[] NO_TONGUES = {Integer.MIN_VALUE, -1, 3, Integer.MAX_VALUE};
    private static final int[] NO_CAPTIONS = {Integer.MIN_VALUE, -1, 2, 15, 16, Integer.MAX_VALUE};
    private static final int[] NO_RULES = {Integer.MIN_VALUE, -1, 8, Integer.MAX_VALUE};
    private static final int[] NO_NAMES = {Integer.MIN_VALUE, -1, 0, 100, Integer.MAX_VALUE};

    private RuleBoundaries() {
    }

    static void run() {
        rules();
        names();
        asked();
        letsGo();
    }

    private static void rules() {
        Sentences.plain("Terms", "A text of a caption can break rules; they are:");
        Sentences.holds("Terms", "EMPTY: it has no signs.", RuleBoundaries::empty);
        Sentences.holds("Terms", "WIDE: it has more than 2 rows,", RuleBoundaries::wideByRows);
        Sentences.holds("Terms", "or one that is wider than the row width.", RuleBoundaries::wideByWidth);
        Sentences.holds("Terms", "FAST: the caption has a time, and 25 times the width of the text is more than the reading speed, 15 at first, times the length.", RuleBoundaries::fast);
        Sentences.holds("Terms", "HANG: the caption has a time, and there is a boundary behind its start and ahead of its end", RuleBoundaries::hangInside);
        Sentences.holds("Terms", "which is less than 12 places behind the start, or less than 12 places ahead of the end.", RuleBoundaries::hangNear);
        Sentences.holds("Terms", "CLOSE: the caption has a time, and there is another one with a time, a SIGN like this one, or no SIGN like this one,", RuleBoundaries::closeToOneLikeIt);
        Sentences.holds("Terms", "which starts at the same place and has a greater number,", RuleBoundaries::closeAtTheSamePlace);
        Sentences.holds("Terms", "or starts later, but less than 2 places behind the end of this one.", RuleBoundaries::closeBehind);
        Sentences.holds("Terms", "STALE: it is stale.", RuleBoundaries::stale);
        Sentences.holds("Terms", "OUT: the caption is out.", RuleBoundaries::out);
        Sentences.holds("Terms", "VOICES: its look is TWO, it is not empty, and it does not have just 2 parts, of which both begin with - (45).", RuleBoundaries::voices);
    }

    private static void names() {
        Sentences.holds("Terms", "A rule that is broken can be let go by a name;", RuleBoundaries::brokenOnly);
        Sentences.holds("Terms", "this holds for the caption, the tongue and the rule", RuleBoundaries::forOneRule);
        Sentences.holds("Terms", "until the text in this tongue is changed (typed, erased, filled in), or the caption is laid anew or gets another look;", RuleBoundaries::nameEnds);
        Sentences.holds("Terms", "until the text in this tongue is changed", RuleBoundaries::namesBeside);
        Sentences.holds("Terms", "it holds on while the rule is not broken any more, and is broken again.", RuleBoundaries::nameHoldsOn);
        Sentences.holds("Terms", "The constants: `NONE = -1`: There is none. `SPEECH = 0, TWO = 1, SONG = 2, SIGN = 3`: Looks of captions. "
            + "`EMPTY = 0, WIDE = 1, FAST = 2, HANG = 3, CLOSE = 4, STALE = 5, OUT = 6, VOICES = 7`: Rules.", RuleBoundaries::constants);
    }

    private static void asked() {
        Sentences.holds("Promise 30", "Returns which rules a text of a caption breaks, let go or not.", RuleBoundaries::letGoOrNot);
        Sentences.holds("Promise 30", "`caption`: a caption `tongue`: 0 to 2", RuleBoundaries::brokenOfTexts);
        Sentences.holds("Promise 30", "Returns the set, bit r for the rule r.", RuleBoundaries::sets);
        Sentences.holds("Promise 30", "Throws `IndexOutOfBoundsException` if there is no such caption or tongue", RuleBoundaries::brokenOfTexts);
        Sentences.plain("Promise 32", "Returns the name that lets a rule go.");
        Sentences.holds("Promise 32", "`caption`: a caption `tongue`: 0 to 2 `rule`: 0 to 7", RuleBoundaries::nameOfRules);
        Sentences.holds("Promise 32", "Returns the name; 0 if none does.", RuleBoundaries::nameBefore);
        Sentences.holds("Promise 32", "Throws `IndexOutOfBoundsException` if there is no such caption, tongue or rule", RuleBoundaries::nameOfRules);
        Sentences.holds("Promise 33", "Returns how many rules are broken in a tongue, and not let go, by all captions together.", RuleBoundaries::faults);
        Sentences.holds("Promise 33", "`tongue`: 0 to 2", RuleBoundaries::faultTongue);
        Sentences.holds("Promise 33", "Throws `IndexOutOfBoundsException` if there is no such tongue", RuleBoundaries::faultTongue);
    }

    private static void letsGo() {
        Sentences.plain("Promise 31", "Lets a rule that is broken go.");
        Sentences.holds("Promise 31", "`caption`: a caption `tongue`: 0 to 2", RuleBoundaries::letGoTexts);
        Sentences.holds("Promise 31", "`rule`: 0 to 7", RuleBoundaries::letGoRules);
        Sentences.holds("Promise 31", "`name`: 1 to 99: who lets it go", RuleBoundaries::letGoNames);
        Sentences.holds("Promise 31", "Returns the name that let it go before; 0 if none did.", RuleBoundaries::nameBefore);
        Sentences.holds("Promise 31", "Throws `IndexOutOfBoundsException` if there is no such caption, tongue or rule", RuleBoundaries::letGoNowhere);
        Sentences.holds("Promise 31", "Throws `IllegalArgumentException` if name is out of range", RuleBoundaries::letGoNames);
        Sentences.holds("Promise 31", "Throws `IllegalStateException` if the rule is not broken", RuleBoundaries::brokenOnly);
    }

    private static boolean breaks(CaptionHouse house, int rule) {
        return Houses.breaks(house, 0, 0, rule);
    }

    private static CaptionHouse two() {
        return Houses.captions(2);
    }

    // ---- rules

    private static void empty() {
        CaptionHouse house = Houses.captions(1);
        Checks.due("no sign", house.broken(0, 0) + " " + house.broken(0, 1) + " " + house.broken(0, 2), "1 1 1");
        house.type(0, 1, 769);
        Checks.due("one sign without a width", house.broken(0, 0) + " " + house.broken(0, 1) + " " + house.broken(0, 2), "1 0 1");
        house.type(0, 2, 10);
        Checks.due("a break alone", house.broken(0, 2), 0);
        house.erase(0, 1);
        Checks.due("empty again", house.broken(0, 1), 1);
        house.cut(0, 5);
        Checks.due("one that is out", house.broken(0, 0), 65);
    }

    private static boolean wide(String text, int rowWidth) {
        CaptionHouse house = Houses.text(text);
        house.setLimits(rowWidth, 50);
        return breaks(house, CaptionHouse.WIDE);
    }

    private static void wideByRows() {
        Checks.due("no row", wide("", 5), false);
        Checks.due("1 row", wide("a", 5), false);
        Checks.due("2 rows", wide("a\nb", 5), false);
        Checks.due("3 rows", wide("a\nb\nc", 5), true);
        Checks.due("3 rows, of which one is empty", wide("a\nb\n", 5), true);
        Checks.due("2 empty rows", wide("\n", 5), false);
        Checks.due("3 empty rows", wide("\n\n", 5), true);
        Checks.due("61 empty rows", wide("\n".repeat(60), 5), true);
        Checks.due("2 rows by a split", wide("abc def", 5), false);
        Checks.due("3 rows by a split", wide("abc def\n", 5), true);
        Checks.due("2 rows if it is not split", wide("abc def\n", 7), false);
        Checks.due("4 rows by splits", wide("abc def\nabc def", 5), true);
    }

    private static void wideByWidth() {
        Checks.due("5 of 5", wide("abcde", 5), false);
        Checks.due("6 of 5", wide("abcdef", 5), true);
        Checks.due("the second row is 5 of 5", wide("a\nabcde", 5), false);
        Checks.due("the second row is 6 of 5", wide("a\nabcdef", 5), true);
        Checks.due("the first row is 6 of 5", wide("abcdef\na", 5), true);
        Checks.due("wide signs, 4 of 5", wide("\u4e2d\u4e2d", 5), false);
        Checks.due("wide signs, 6 of 5", wide("\u4e2d\u4e2d\u4e2d", 5), true);
        Checks.due("a sign without a width, 5 of 5", wide("abcde\u0301", 5), false);
        Checks.due("60 of 60", wide("a".repeat(60), 60), false);
        Checks.due("60 of 59", wide("a".repeat(60), 59), true);
        Checks.due("120 of 60", wide("\ud83d\ude00".repeat(60), 60), true);
        CaptionHouse house = Houses.text("a".repeat(32));
        Checks.due("32 of 32 at first", breaks(house, CaptionHouse.WIDE), false);
        house.type(0, 0, 'a');
        Checks.due("33 of 32 at first", breaks(house, CaptionHouse.WIDE), true);
        house.cut(0, 300);
        Checks.due("one that is out", breaks(house, CaptionHouse.WIDE), true);
    }

    private static boolean fast(String text, int speed, int length) {
        CaptionHouse house = Houses.film(300);
        house.add(0, length);
        Houses.type(house, 0, 0, text);
        house.setLimits(32, speed);
        return breaks(house, CaptionHouse.FAST);
    }

    private static void fast() {
        Checks.due("75 of 75", fast("abc", 15, 5), false);
        Checks.due("75 of 60", fast("abc", 15, 4), true);
        Checks.due("75 of 90", fast("abc", 15, 6), false);
        Checks.due("75 of 70", fast("abc", 14, 5), true);
        Checks.due("100 of 75", fast("abcd", 15, 5), true);
        Checks.due("50 of 75", fast("ab", 15, 5), false);
        Checks.due("0 of 5", fast("", 5, 1), false);
        Checks.due("a sign without a width", fast("\u0301", 5, 1), false);
        Checks.due("50 of 50", fast("ab", 50, 1), false);
        Checks.due("75 of 50", fast("abc", 50, 1), true);
        Checks.due("1250 of 1250", fast("a".repeat(50), 5, 250), false);
        Checks.due("1275 of 1250", fast("a".repeat(51), 5, 250), true);
        Checks.due("3000 of 3000", fast("\ud83d\ude00".repeat(60), 50, 60), false);
        Checks.due("3000 of 2950", fast("\ud83d\ude00".repeat(60), 50, 59), true);
        CaptionHouse atFirst = Houses.film(25);
        atFirst.add(0, 25);
        Houses.type(atFirst, 0, 0, "a".repeat(15));
        Checks.due("375 of 375 at first", breaks(atFirst, CaptionHouse.FAST), false);
        atFirst.type(0, 0, 'a');
        Checks.due("400 of 375 at first", breaks(atFirst, CaptionHouse.FAST), true);
        CaptionHouse house = Houses.film(300);
        house.add(0, 250);
        Houses.type(house, 0, 0, "a".repeat(6));
        house.cut(10, 290);
        Checks.due("150 of 150 at first", breaks(house, CaptionHouse.FAST), false);
        house.cut(9, 1);
        Checks.due("150 of 135", breaks(house, CaptionHouse.FAST), true);
        house.cut(0, 9);
        Checks.due("one that is out", breaks(house, CaptionHouse.FAST), false);
    }

    private static boolean hangs(int from, int count) {
        CaptionHouse house = Houses.film(100, 100);
        house.add(from, count);
        return breaks(house, CaptionHouse.HANG);
    }

    private static void hangInside() {
        Checks.due("at the start", hangs(100, 50), false);
        Checks.due("1 ahead of the start", hangs(101, 50), false);
        Checks.due("1 behind the start", hangs(99, 50), true);
        Checks.due("at the end", hangs(50, 50), false);
        Checks.due("1 behind the end", hangs(49, 50), false);
        Checks.due("1 ahead of the end", hangs(51, 50), true);
        Checks.due("one place", hangs(99, 1) + " " + hangs(100, 1), "false false");
        Checks.due("two places", hangs(98, 2) + " " + hangs(99, 2) + " " + hangs(100, 2), "false true false");
        Checks.due("no boundary", hangs(0, 100), false);
        CaptionHouse house = Houses.film(100, 100);
        house.add(99, 2);
        house.cut(99, 2);
        Checks.due("one that is out", breaks(house, CaptionHouse.HANG), false);
        Checks.due("a boundary there", house.isBoundary(99), true);
    }

    private static void hangNear() {
        Checks.due("11 behind the start", hangs(89, 50), true);
        Checks.due("12 behind the start", hangs(88, 50), false);
        Checks.due("13 behind the start", hangs(87, 50), false);
        Checks.due("11 ahead of the end", hangs(61, 50), true);
        Checks.due("12 ahead of the end", hangs(62, 50), false);
        Checks.due("13 ahead of the end", hangs(63, 50), false);
        Checks.due("12 behind the start, 12 ahead of the end", hangs(88, 24), false);
        Checks.due("12 behind the start, 11 ahead of the end", hangs(88, 23), true);
        Checks.due("11 behind the start, 12 ahead of the end", hangs(89, 23), true);
        CaptionHouse house = Houses.film(100, 20, 100);
        house.add(80, 60);
        Checks.due("two, both far", breaks(house, CaptionHouse.HANG), false);
        house.cut(105, 10);
        Checks.due("three, all far", house.isBoundary(105) + " " + breaks(house, CaptionHouse.HANG), "true false");
        house.cut(117, 1);
        Checks.due("the last one is 12 ahead of the end", house.lengthOf(0) + " " + breaks(house, CaptionHouse.HANG), "49 false");
        house.cut(128, 1);
        Checks.due("the last one is 11 ahead of the end", house.lengthOf(0) + " " + breaks(house, CaptionHouse.HANG), "48 true");
    }

    private static boolean isClose(int otherFrom, int otherCount) {
        CaptionHouse house = Houses.film(200);
        house.add(50, 10);
        house.add(otherFrom, otherCount);
        return breaks(house, CaptionHouse.CLOSE);
    }

    private static void closeToOneLikeIt() {
        CaptionHouse house = Houses.film(200);
        house.add(50, 10);
        Checks.due("itself", breaks(house, CaptionHouse.CLOSE), false);
        house.add(60, 10);
        for (int look = 0; look < 4; look++) {
            for (int other = 0; other < 4; other++) {
                house.setLook(0, look);
                house.setLook(1, other);
                Checks.due("looks " + look + " and " + other, breaks(house, CaptionHouse.CLOSE), (look == 3) == (other == 3));
            }
        }
        house.lay(1, 61, 1);
        Checks.due("the other one has a time", breaks(house, CaptionHouse.CLOSE), true);
        house.cut(61, 1);
        Checks.due("the other one is out", breaks(house, CaptionHouse.CLOSE), false);
        house.putBack(0, 61, 1, 61);
        Checks.due("the other one is back", breaks(house, CaptionHouse.CLOSE), true);
        house.cut(50, 10);
        Checks.due("it is out", breaks(house, CaptionHouse.CLOSE), false);
    }

    private static void closeAtTheSamePlace() {
        CaptionHouse house = Houses.film(200);
        for (int i = 0; i < 16; i++) {
            house.add(50, 1 + i);
        }
        for (int i = 0; i < 16; i++) {
            Checks.due("the caption " + i + " of 16", Houses.breaks(house, i, 0, CaptionHouse.CLOSE), i < 15);
        }
        Checks.due("the same place", isClose(50, 1), true);
        Checks.due("one place earlier", isClose(49, 1) + " " + isClose(49, 50), "false false");
        Checks.due("one place later", isClose(51, 1), true);
    }

    private static void closeBehind() {
        Checks.due("at the last place", isClose(59, 5), true);
        Checks.due("at the end", isClose(60, 5), true);
        Checks.due("1 behind the end", isClose(61, 5), true);
        Checks.due("2 behind the end", isClose(62, 5), false);
        Checks.due("3 behind the end", isClose(63, 5), false);
        Checks.due("earlier, and reaching over it", isClose(40, 100), false);
        CaptionHouse house = Houses.film(200);
        house.add(100, 1);
        house.add(0, 50);
        house.add(51, 49);
        Checks.due("of greater and lower numbers", Houses.breaks(house, 0, 0, 4) + " " + Houses.breaks(house, 1, 0, 4) + " " + Houses.breaks(house, 2, 0, 4), "false true true");
        house.lay(2, 52, 46);
        Checks.due("2 places between", Houses.breaks(house, 0, 0, 4) + " " + Houses.breaks(house, 1, 0, 4) + " " + Houses.breaks(house, 2, 0, 4), "false false false");
    }

    private static void stale() {
        CaptionHouse house = Houses.captions(1);
        house.type(0, 1, 'a');
        Checks.due("not stale", house.broken(0, 1), 0);
        house.type(0, 0, 'b');
        Checks.due("stale, not stale, empty", house.broken(0, 1) + " " + house.broken(0, 0) + " " + house.broken(0, 2), "32 0 1");
        house.confirm(0, 1);
        Checks.due("not stale any more", house.broken(0, 1), 0);
        house.erase(0, 0);
        house.erase(0, 1);
        Checks.due("empty, so not stale", house.broken(0, 1), 1);
    }

    private static void out() {
        CaptionHouse house = Houses.film(10);
        house.add(3, 2);
        for (int tongue = 0; tongue < 3; tongue++) {
            house.type(0, tongue, 769);
        }
        house.confirm(0, 1);
        house.cut(3, 1);
        Checks.due("one frame is left", house.broken(0, 0) + " " + house.broken(0, 1) + " " + house.broken(0, 2), "0 0 0");
        house.cut(3, 1);
        Checks.due("none is left", house.broken(0, 0) + " " + house.broken(0, 1) + " " + house.broken(0, 2), "64 64 64");
        house.putBack(0, 4, 1, 0);
        Checks.due("one is back", house.broken(0, 0) + " " + house.broken(0, 1) + " " + house.broken(0, 2), "0 0 0");
    }

    private static boolean lacksVoices(String text) {
        CaptionHouse house = Houses.text(text);
        house.setLook(0, CaptionHouse.TWO);
        return breaks(house, CaptionHouse.VOICES);
    }

    private static void voices() {
        Checks.due("empty", lacksVoices(""), false);
        Checks.due("1 part", lacksVoices("-") + " " + lacksVoices("-a-b"), "true true");
        Checks.due("2 parts", lacksVoices("-\n-") + " " + lacksVoices("-a\n-b"), "false false");
        Checks.due("3 parts", lacksVoices("-\n-\n") + " " + lacksVoices("-\n-\n-") + " " + lacksVoices("\n-\n-"), "true true true");
        Checks.due("an empty part", lacksVoices("-\n") + " " + lacksVoices("\n-") + " " + lacksVoices("\n"), "true true true");
        Checks.due("44 and 46 are no dashes", lacksVoices(",\n-") + " " + lacksVoices("-\n."), "true true");
        Checks.due("a blank ahead of a dash", lacksVoices(" -\n-") + " " + lacksVoices("-\n -"), "true true");
        Checks.due("dashes of other kinds", lacksVoices("\u2013a\n-b") + " " + lacksVoices("-a\n\u2014b"), "true true");
        Checks.due("two parts in three rows", lacksVoices("-" + "a".repeat(25) + " " + "b".repeat(25) + "\n-c"), false);
        CaptionHouse house = Houses.text("a");
        for (int look = 0; look < 4; look++) {
            house.setLook(0, look);
            Checks.due("the look " + look, breaks(house, CaptionHouse.VOICES), look == CaptionHouse.TWO);
        }
    }

    // ---- names

    private static void brokenOnly() {
        CaptionHouse house = Houses.film(100);
        house.add(0, 50);
        house.type(0, 1, 'a');
        for (int tongue = 0; tongue < 2; tongue++) {
            for (int rule = 0; rule < 8; rule++) {
                int in = tongue;
                int of = rule;
                boolean isBroken = (house.broken(0, tongue) >> rule & 1) == 1;
                if (isBroken) {
                    Checks.due("letGo of " + rule, house.letGo(0, tongue, rule, 3), 0);
                } else {
                    Checks.noState(house, "letGo of " + rule, () -> house.letGo(0, in, of, 3));
                }
            }
        }
        house.cut(0, 50);
        Checks.due("it is broken now", house.letGo(0, 1, CaptionHouse.OUT, 3), 0);
        house.putBack(0, 0, 50, 0);
        Checks.noState(house, "it is not broken any more", () -> house.letGo(0, 1, CaptionHouse.OUT, 4));
        Checks.due("the name holds on", house.nameOf(0, 1, CaptionHouse.OUT), 3);
    }

    private static void forOneRule() {
        CaptionHouse house = Houses.film(100, 100);
        for (int i = 0; i < 16; i++) {
            house.add(99, 2);
        }
        house.letGo(7, 1, CaptionHouse.HANG, 9);
        int names = 0;
        for (int caption = 0; caption < 16; caption++) {
            for (int tongue = 0; tongue < 3; tongue++) {
                for (int rule = 0; rule < 8; rule++) {
                    names += house.nameOf(caption, tongue, rule);
                }
            }
        }
        Checks.due("one name", names + " " + house.nameOf(7, 1, CaptionHouse.HANG), "9 9");
        house.letGo(7, 1, CaptionHouse.EMPTY, 8);
        house.letGo(7, 2, CaptionHouse.HANG, 7);
        house.letGo(8, 1, CaptionHouse.HANG, 6);
        Checks.due("names beside it", house.nameOf(7, 1, 3) + " " + house.nameOf(7, 1, 0) + " " + house.nameOf(7, 2, 3) + " " + house.nameOf(8, 1, 3), "9 8 7 6");
    }

    /** Two captions that hang, let go in all tongues, with a text in each. */
    private static CaptionHouse named() {
        CaptionHouse house = Houses.film(100, 100);
        for (int caption = 0; caption < 2; caption++) {
            house.add(99, 2);
            for (int tongue = 0; tongue < 3; tongue++) {
                house.type(caption, tongue, 'a');
            }
        }
        for (int i = 0; i < 6; i++) {
            house.letGo(i / 3, i % 3, CaptionHouse.HANG, i + 1);
        }
        return house;
    }

    private static String namesOf(CaptionHouse house) {
        StringBuilder names = new StringBuilder();
        for (int i = 0; i < 6; i++) {
            names.append(house.nameOf(i / 3, i % 3, CaptionHouse.HANG));
        }
        return names.toString();
    }

    private static void nameEnds() {
        CaptionHouse house = named();
        Checks.due("all hold", namesOf(house), "123456");
        house.type(0, 0, 'b');
        Checks.due("typed", namesOf(house), "023456");
        house.erase(1, 1);
        Checks.due("erased", namesOf(house), "023406");
        CaptionHouse filled = named();
        filled.confirm(0, 2);
        Checks.due("confirmed", namesOf(filled), "123456");
        filled.erase(1, 0);
        filled.type(1, 0, 'a');
        Checks.due("the text in the tongue 0", namesOf(filled), "123056");
        Checks.due("filled in", filled.fill(2) + " " + namesOf(filled), "1 123050");
        Checks.due("not filled in", filled.fill(1) + " " + filled.fill(2) + " " + namesOf(filled), "0 0 123050");
        CaptionHouse laid = named();
        laid.lay(1, 99, 2);
        Checks.due("laid at the same places", namesOf(laid), "123000");
        laid.lay(0, 0, 1);
        Checks.due("laid at other places", namesOf(laid), "000000");
        CaptionHouse looks = named();
        looks.setLook(0, CaptionHouse.SPEECH);
        Checks.due("the same look", namesOf(looks), "123456");
        looks.setLook(0, CaptionHouse.SIGN);
        Checks.due("another look", namesOf(looks), "000456");
        looks.setLook(0, CaptionHouse.SPEECH);
        Checks.due("the first look again", namesOf(looks), "000456");
    }

    /** The last rule of the text ahead, and the first one of the text behind, are let go, too. */
    private static void namesBeside() {
        CaptionHouse house = Houses.captions(3);
        house.setLook(1, CaptionHouse.TWO);
        house.type(1, 0, 'a');
        house.letGo(1, 0, CaptionHouse.VOICES, 11);
        house.letGo(1, 1, CaptionHouse.EMPTY, 12);
        house.letGo(1, 2, CaptionHouse.EMPTY, 13);
        house.letGo(2, 0, CaptionHouse.EMPTY, 14);
        house.type(1, 1, 'b');
        Checks.due("typed beside them", house.nameOf(1, 0, 7) + " " + house.nameOf(1, 1, 0) + " " + house.nameOf(1, 2, 0), "11 0 13");
        house.lay(0, 0, 1);
        house.lay(2, 0, 1);
        Checks.due("laid beside them", house.nameOf(1, 0, 7) + " " + house.nameOf(1, 2, 0) + " " + house.nameOf(2, 0, 0), "11 13 0");
        house.lay(1, 0, 1);
        house.letGo(1, 2, CaptionHouse.EMPTY, 15);
        house.letGo(2, 0, CaptionHouse.EMPTY, 16);
        house.type(1, 1, 'c');
        house.setLook(1, CaptionHouse.SONG);
        Checks.due("another look beside it", house.nameOf(1, 2, 0) + " " + house.nameOf(2, 0, 0), "0 16");
    }

    private static void nameHoldsOn() {
        CaptionHouse house = named();
        house.cut(99, 2);
        Checks.due("out", namesOf(house) + " " + house.broken(0, 0), "123456 64");
        house.putBack(0, 99, 1, 99);
        Checks.due("in", namesOf(house) + " " + Houses.breaks(house, 0, 0, CaptionHouse.HANG), "123456 false");
        house.putBack(1, 0, 1, 100);
        Checks.due("broken again", namesOf(house) + " " + Houses.breaks(house, 0, 0, CaptionHouse.HANG), "123456 true");
        Checks.due("let go, too", house.letGo(0, 0, CaptionHouse.HANG, 99) + " " + house.faults(0), "1 1");
        house.setLimits(5, 5);
        house.addShot(3);
        house.move(0, 1, 1);
        Checks.due("limits and moves", namesOf(house), "9923456");
        Bounds.refused("a sign that is refused", Bounds.ARGUMENT, house, (of, sign) -> of.type(0, 0, sign), 31, 131072);
        Bounds.refused("a place that is refused", Bounds.INDEX, house, (of, from) -> of.lay(0, from, 1), -1, 203);
        Bounds.refused("a look that is refused", Bounds.ARGUMENT, house, (of, look) -> of.setLook(0, look), -1, 4);
        Checks.due("refused calls", namesOf(house), "9923456");
    }

    private static void constants() {
        int[] looks = {CaptionHouse.NONE, CaptionHouse.SPEECH, CaptionHouse.TWO, CaptionHouse.SONG, CaptionHouse.SIGN};
        for (int i = 0; i < looks.length; i++) {
            Checks.due("NONE and looks", looks[i], i - 1);
        }
        int[] rules = {CaptionHouse.EMPTY, CaptionHouse.WIDE, CaptionHouse.FAST, CaptionHouse.HANG, CaptionHouse.CLOSE,
            CaptionHouse.STALE, CaptionHouse.OUT, CaptionHouse.VOICES};
        for (int i = 0; i < rules.length; i++) {
            Checks.due("rules", rules[i], i);
        }
    }

    // ---- broken, nameOf and faults

    private static void letGoOrNot() {
        CaptionHouse house = two();
        Checks.due("broken", house.broken(0, 0), 1);
        house.letGo(0, 0, CaptionHouse.EMPTY, 1);
        Checks.due("let go", house.broken(0, 0) + " " + house.faults(0), "1 1");
    }

    private static void brokenOfTexts() {
        Bounds.range("broken of the caption", Bounds.INDEX, RuleBoundaries::two, 0, 1, (house, caption) -> house.broken(caption, 0));
        Bounds.range("broken of the caption", Bounds.INDEX, () -> Houses.captions(16), 0, 15, (house, caption) -> house.broken(caption, 2));
        Bounds.range("broken of the tongue", Bounds.INDEX, RuleBoundaries::two, 0, 2, (house, tongue) -> house.broken(1, tongue));
        Bounds.refused("broken", Bounds.INDEX, new CaptionHouse(), (house, caption) -> house.broken(caption, 0), -1, 0, 1);
    }

    private static CaptionHouse allBroken() {
        CaptionHouse house = Houses.film(100, 100);
        house.add(99, 2);
        house.add(99, 2);
        house.setLimits(5, 5);
        house.setLook(0, CaptionHouse.TWO);
        Houses.type(house, 0, 1, "abcdef");
        house.type(0, 0, 'a');
        return house;
    }

    private static void sets() {
        CaptionHouse house = allBroken();
        Checks.due("WIDE, FAST, HANG, CLOSE, STALE and VOICES", house.broken(0, 1), 2 + 4 + 8 + 16 + 32 + 128);
        Checks.due("EMPTY, HANG and CLOSE", house.broken(0, 2), 1 + 8 + 16);
        Checks.due("EMPTY and HANG", house.broken(1, 2), 1 + 8);
        house.cut(99, 2);
        Checks.due("WIDE, STALE, OUT and VOICES", house.broken(0, 1), 2 + 32 + 64 + 128);
        Checks.due("EMPTY and OUT", house.broken(0, 2), 1 + 64);
        Checks.due("none", brokenRules("-a\n-b"), 0);
    }

    private static int brokenRules(String text) {
        CaptionHouse house = Houses.text(text);
        house.setLook(0, CaptionHouse.TWO);
        return house.broken(0, 0);
    }

    private static void nameOfRules() {
        CaptionHouse house = two();
        Bounds.range("nameOf the caption", Bounds.INDEX, () -> house, 0, 1, (of, caption) -> of.nameOf(caption, 0, 0));
        Bounds.range("nameOf the tongue", Bounds.INDEX, () -> house, 0, 2, (of, tongue) -> of.nameOf(1, tongue, 7));
        Bounds.range("nameOf the rule", Bounds.INDEX, () -> house, 0, 7, (of, rule) -> of.nameOf(1, 2, rule));
        Bounds.refused("nameOf", Bounds.INDEX, new CaptionHouse(), (of, caption) -> of.nameOf(caption, 0, 0), -1, 0, 1);
        CaptionHouse full = Houses.captions(16);
        full.letGo(15, 2, CaptionHouse.EMPTY, 5);
        Bounds.range("nameOf the caption", Bounds.INDEX, () -> full, 0, 15, (of, caption) -> of.nameOf(caption, 2, 7));
        Checks.due("the last text", full.nameOf(15, 2, 0) + " " + full.nameOf(15, 2, 7) + " " + full.nameOf(15, 1, 0), "5 0 0");
        full.setLook(15, CaptionHouse.TWO);
        full.type(15, 2, 'a');
        full.letGo(15, 2, CaptionHouse.VOICES, 6);
        Checks.due("the last rule of the last text", full.nameOf(15, 2, 0) + " " + full.nameOf(15, 2, 7), "0 6");
    }

    private static void nameBefore() {
        CaptionHouse house = two();
        Checks.due("none", house.nameOf(0, 0, 0), 0);
        Checks.due("none before", house.letGo(0, 0, 0, 99) + " " + house.nameOf(0, 0, 0), "0 99");
        Checks.due("99 before", house.letGo(0, 0, 0, 1) + " " + house.nameOf(0, 0, 0), "99 1");
        Checks.due("the same name", house.letGo(0, 0, 0, 1) + " " + house.nameOf(0, 0, 0), "1 1");
        Checks.noArgument(house, "a name that is refused", () -> house.letGo(0, 0, 0, 100));
        Checks.due("still", house.nameOf(0, 0, 0), 1);
        house.type(0, 0, 'a');
        Checks.due("ended", house.nameOf(0, 0, 0), 0);
        house.erase(0, 0);
        Checks.due("none before, as it ended", house.letGo(0, 0, 0, 2), 0);
    }

    private static void faults() {
        CaptionHouse none = new CaptionHouse();
        Checks.due("no caption", none.faults(0) + " " + none.faults(1) + " " + none.faults(2), "0 0 0");
        CaptionHouse house = allBroken();
        Checks.due("in each tongue", house.faults(0) + " " + house.faults(1) + " " + house.faults(2), (4 + 2) + " " + (6 + 2) + " " + (3 + 2));
        for (int rule : new int[] {1, 2, 3, 4, 5, 7}) {
            house.letGo(0, 1, rule, 50);
        }
        Checks.due("the first caption is let go", house.faults(1), 2);
        house.letGo(1, 1, 0, 50);
        Checks.due("one is left", house.faults(1), 1);
        house.letGo(1, 1, 3, 50);
        Checks.due("none is left", house.faults(0) + " " + house.faults(1) + " " + house.faults(2), "6 0 5");
        house.cut(99, 2);
        Checks.due("both are out", house.faults(1), 2);
        CaptionHouse full = Houses.film(100, 100);
        full.setLimits(5, 5);
        for (int caption = 0; caption < 16; caption++) {
            full.add(99, 2);
            full.setLook(caption, CaptionHouse.TWO);
            Houses.type(full, caption, 1, "abcdef");
            full.type(caption, 0, 'a');
        }
        Checks.due("as many as there can be", full.faults(1), 16 * 6 - 1);
    }

    private static void faultTongue() {
        Bounds.range("faults", Bounds.INDEX, RuleBoundaries::two, 0, 2, (house, tongue) -> house.faults(tongue));
        Bounds.range("faults of a new house", Bounds.INDEX, CaptionHouse::new, 0, 2, (house, tongue) -> house.faults(tongue));
    }

    // ---- letGo

    private static void letGoTexts() {
        Bounds.range("letGo of the caption", Bounds.INDEX, RuleBoundaries::two, 0, 1, (house, caption) -> house.letGo(caption, 0, 0, 5));
        Bounds.range("letGo of the caption", Bounds.INDEX, () -> Houses.captions(16), 0, 15, (house, caption) -> house.letGo(caption, 2, 0, 5));
        Bounds.range("letGo of the tongue", Bounds.INDEX, RuleBoundaries::two, 0, 2, (house, tongue) -> house.letGo(1, tongue, 0, 5));
    }

    private static void letGoRules() {
        CaptionHouse house = allBroken();
        for (int rule : new int[] {1, 2, 3, 4, 5, 7}) {
            Checks.due("letGo of " + rule, house.letGo(0, 1, rule, 10 + rule), 0);
        }
        house.letGo(1, 1, 0, 10);
        house.cut(99, 2);
        house.letGo(0, 1, 6, 16);
        for (int rule = 1; rule < 8; rule++) {
            Checks.due("nameOf " + rule, house.nameOf(0, 1, rule), 10 + rule);
        }
        Checks.due("nameOf 0", house.nameOf(0, 1, 0) + " " + house.nameOf(1, 1, 0), "0 10");
        Bounds.refused("letGo of the rule", Bounds.INDEX, house, (of, rule) -> of.letGo(0, 1, rule, 5), NO_RULES);
    }

    private static void letGoNames() {
        Bounds.range("letGo by", Bounds.ARGUMENT, RuleBoundaries::two, 1, 99, (house, name) -> house.letGo(0, 0, 0, name));
        CaptionHouse house = two();
        house.letGo(0, 0, 0, 99);
        Bounds.refused("letGo by", Bounds.ARGUMENT, house, (of, name) -> of.letGo(0, 0, 0, name), NO_NAMES);
        for (int rule = 1; rule < 8; rule++) {
            int of = rule;
            Bounds.refused("letGo of what is not broken by", Bounds.ARGUMENT, house, (same, name) -> same.letGo(0, 0, of, name), NO_NAMES);
        }
        Checks.due("the name before", house.letGo(0, 0, 0, 1), 99);
    }

    private static void letGoNowhere() {
        CaptionHouse house = two();
        for (int name : new int[] {0, 1, 99, 100}) {
            Bounds.refused("letGo of the caption", Bounds.INDEX, house, (of, caption) -> of.letGo(caption, 0, 0, name), NO_CAPTIONS);
            Bounds.refused("letGo of the tongue", Bounds.INDEX, house, (of, tongue) -> of.letGo(0, tongue, 0, name), NO_TONGUES);
            Bounds.refused("letGo of the rule", Bounds.INDEX, house, (of, rule) -> of.letGo(0, 0, rule, name), NO_RULES);
        }
    }
}

/** Promises 30 to 33: rules that are broken, and let go by a name. */
final class RulesTest {
    private static final int[] WRONG = {-1, 3, Integer.MIN_VALUE, Integer.MAX_VALUE};

    private RulesTest() {
    }

    public static void main(String[] args) {
        emptyAndOut();
        wide();
        fast();
        hang();
        hangOfLongOnes();
        close();
        closeOfSigns();
        stale();
        voices();
        letGo();
        letGoEnds();
        letGoRefused();
        faults();
        Checks.end("RulesTest");
    }

    private static void emptyAndOut() {
        CaptionHouse house = Houses.film(100);
        house.add(0, 50);
        Checks.due("EMPTY", house.broken(0, 0) + " " + house.broken(0, 1) + " " + house.broken(0, 2), "1 1 1");
        house.type(0, 1, 'a');
        Checks.due("not EMPTY", house.broken(0, 0) + " " + house.broken(0, 1), "1 0");
        house.cut(0, 50);
        Checks.due("OUT", house.broken(0, 0) + " " + house.broken(0, 1), "65 64");
        for (int wrong : WRONG) {
            Checks.noIndex(house, "broken of no tongue", () -> house.broken(0, wrong));
            Checks.noIndex(house, "broken of no caption", () -> house.broken(wrong, 0));
        }
    }

    private static void wide() {
        CaptionHouse house = Houses.film(300);
        house.add(0, 250);
        house.setLimits(5, 50);
        Houses.type(house, 0, 0, "abcde\nfghij");
        Checks.due("two rows that fit", Houses.breaks(house, 0, 0, CaptionHouse.WIDE), false);
        house.type(0, 0, 'k');
        Checks.due("a row too wide", Houses.breaks(house, 0, 0, CaptionHouse.WIDE), true);
        house.erase(0, 0);
        house.type(0, 0, '\n');
        Checks.due("three rows", Houses.breaks(house, 0, 0, CaptionHouse.WIDE), true);
        Houses.type(house, 0, 1, "abc abc");
        Checks.due("two rows by a split", Houses.breaks(house, 0, 1, CaptionHouse.WIDE), false);
        Houses.type(house, 0, 1, "\nd");
        Checks.due("three rows by a split", Houses.breaks(house, 0, 1, CaptionHouse.WIDE), true);
        house.cut(0, 250);
        Checks.due("one that is out", Houses.breaks(house, 0, 1, CaptionHouse.WIDE), true);
    }

    private static void fast() {
        CaptionHouse house = Houses.film(300);
        house.add(0, 5);
        Houses.type(house, 0, 0, "abc");
        Checks.due("75 of 75", Houses.breaks(house, 0, 0, CaptionHouse.FAST), false);
        house.type(0, 0, 769);
        Checks.due("a sign without width", Houses.breaks(house, 0, 0, CaptionHouse.FAST), false);
        house.type(0, 0, 'd');
        Checks.due("100 of 75", Houses.breaks(house, 0, 0, CaptionHouse.FAST), true);
        house.setLimits(32, 20);
        Checks.due("100 of 100", Houses.breaks(house, 0, 0, CaptionHouse.FAST), false);
        house.setLimits(32, 19);
        Checks.due("100 of 95", Houses.breaks(house, 0, 0, CaptionHouse.FAST), true);
        house.lay(0, 0, 6);
        Checks.due("100 of 114", Houses.breaks(house, 0, 0, CaptionHouse.FAST), false);
        house.cut(3, 3);
        Checks.due("100 of 57", Houses.breaks(house, 0, 0, CaptionHouse.FAST), true);
        house.cut(0, 3);
        Checks.due("one that is out", Houses.breaks(house, 0, 0, CaptionHouse.FAST), false);
        CaptionHouse atFirst = Houses.film(25);
        atFirst.add(0, 25);
        Houses.type(atFirst, 0, 0, "fifteen signs..");
        Checks.due("375 of 375 at first", Houses.breaks(atFirst, 0, 0, CaptionHouse.FAST), false);
        atFirst.type(0, 0, '.');
        Checks.due("400 of 375 at first", Houses.breaks(atFirst, 0, 0, CaptionHouse.FAST), true);
    }

    private static boolean hangs(int from, int count) {
        CaptionHouse house = Houses.film(100, 100);
        house.add(from, count);
        return Houses.breaks(house, 0, 0, CaptionHouse.HANG);
    }

    private static void hang() {
        Checks.due("a boundary at the start", hangs(100, 50), false);
        Checks.due("1 behind the start", hangs(99, 50), true);
        Checks.due("11 behind the start", hangs(89, 50), true);
        Checks.due("12 behind the start", hangs(88, 50), false);
        Checks.due("12 ahead of the end", hangs(62, 50), false);
        Checks.due("11 ahead of the end", hangs(61, 50), true);
        Checks.due("1 ahead of the end", hangs(51, 50), true);
        Checks.due("a boundary at the end", hangs(50, 50), false);
        Checks.due("one place", hangs(99, 1), false);
        Checks.due("two places", hangs(99, 2), true);
        CaptionHouse house = Houses.film(100, 100);
        house.add(99, 50);
        house.cut(99, 50);
        Checks.due("one that is out", Houses.breaks(house, 0, 0, CaptionHouse.HANG), false);
    }

    private static void hangOfLongOnes() {
        CaptionHouse house = Houses.film(100, 20, 100);
        house.add(80, 60);
        Checks.due("far ones", Houses.breaks(house, 0, 0, CaptionHouse.HANG), false);
        house.cut(85, 1);
        Checks.due("a gap in a shot", Houses.breaks(house, 0, 0, CaptionHouse.HANG), true);
    }

    private static boolean isClose(int otherFrom, int otherCount) {
        CaptionHouse house = Houses.film(200);
        house.add(50, 10);
        house.add(otherFrom, otherCount);
        return Houses.breaks(house, 0, 0, CaptionHouse.CLOSE);
    }

    private static void close() {
        Checks.due("the same start", isClose(50, 3), true);
        Checks.due("earlier", isClose(49, 30), false);
        Checks.due("on it", isClose(55, 3), true);
        Checks.due("at the end", isClose(60, 3), true);
        Checks.due("1 behind the end", isClose(61, 3), true);
        Checks.due("2 behind the end", isClose(62, 3), false);
        CaptionHouse house = Houses.film(200);
        house.add(50, 10);
        house.add(50, 10);
        Checks.due("the greater number", Houses.breaks(house, 1, 0, CaptionHouse.CLOSE), false);
        Checks.due("the lower number", Houses.breaks(house, 0, 2, CaptionHouse.CLOSE), true);
        house.lay(1, 61, 5);
        house.cut(61, 5);
        Checks.due("the other one is out", Houses.breaks(house, 0, 0, CaptionHouse.CLOSE), false);
        house.lay(1, 61, 5);
        house.cut(50, 10);
        Checks.due("it is out", Houses.breaks(house, 0, 0, CaptionHouse.CLOSE), false);
    }

    private static void closeOfSigns() {
        CaptionHouse house = Houses.film(200);
        house.add(50, 10);
        house.add(55, 10);
        for (int look = 0; look < 4; look++) {
            for (int other = 0; other < 4; other++) {
                house.setLook(0, look);
                house.setLook(1, other);
                boolean due = (look == CaptionHouse.SIGN) == (other == CaptionHouse.SIGN);
                Checks.due("looks " + look + " and " + other, Houses.breaks(house, 0, 0, CaptionHouse.CLOSE), due);
            }
        }
    }

    private static void stale() {
        CaptionHouse house = Houses.film(200);
        house.add(50, 50);
        house.type(0, 1, 'a');
        house.type(0, 0, 'b');
        Checks.due("STALE", house.broken(0, 0) + " " + house.broken(0, 1) + " " + house.broken(0, 2), "0 32 1");
    }

    private static boolean lacksVoices(String text) {
        CaptionHouse house = Houses.film(200);
        house.add(0, 100);
        house.setLook(0, CaptionHouse.TWO);
        Houses.type(house, 0, 1, text);
        return Houses.breaks(house, 0, 1, CaptionHouse.VOICES);
    }

    private static void voices() {
        Checks.due("empty", lacksVoices(""), false);
        Checks.due("two voices", lacksVoices("-a\n-b"), false);
        Checks.due("two dashes", lacksVoices("-\n-"), false);
        Checks.due("one part", lacksVoices("-a"), true);
        Checks.due("three parts", lacksVoices("-a\n-b\n-c"), true);
        Checks.due("an empty third part", lacksVoices("-a\n-b\n"), true);
        Checks.due("an empty second part", lacksVoices("-a\n"), true);
        Checks.due("an empty first part", lacksVoices("\n-b"), true);
        Checks.due("no dash in the first one", lacksVoices("a\n-b"), true);
        Checks.due("no dash in the second one", lacksVoices("-a\nb"), true);
        Checks.due("a dash too late", lacksVoices("-a\n -b"), true);
        CaptionHouse house = Houses.film(200);
        house.add(0, 100);
        house.type(0, 0, 'a');
        for (int look = 0; look < 4; look++) {
            house.setLook(0, look);
            Checks.due("look " + look, Houses.breaks(house, 0, 0, CaptionHouse.VOICES), look == CaptionHouse.TWO);
        }
        house.setLook(0, CaptionHouse.TWO);
        house.cut(0, 100);
        Checks.due("one that is out", Houses.breaks(house, 0, 0, CaptionHouse.VOICES), true);
    }

    private static void letGo() {
        CaptionHouse house = Houses.film(100, 100);
        house.add(95, 50);
        Checks.due("letGo", house.letGo(0, 1, CaptionHouse.HANG, 99), 0);
        Checks.due("letGo again", house.letGo(0, 1, CaptionHouse.HANG, 1), 99);
        Checks.due("nameOf", house.nameOf(0, 1, CaptionHouse.HANG), 1);
        Checks.due("another tongue", house.nameOf(0, 0, CaptionHouse.HANG), 0);
        Checks.due("another rule", house.nameOf(0, 1, CaptionHouse.EMPTY), 0);
        Checks.due("broken still", house.broken(0, 1), 9);
        house.move(90, 5, 0);
        Checks.due("broken still", house.broken(0, 1), 9);
        house.cut(95, 5);
        Checks.due("not broken", house.broken(0, 1), 1);
        Checks.due("the name holds on", house.nameOf(0, 1, CaptionHouse.HANG), 1);
        Checks.due("faults without it", house.faults(1), 1);
        house.putBack(0, 95, 5, 95);
        Checks.due("broken again", house.broken(0, 1), 9);
        Checks.due("the name holds on", house.nameOf(0, 1, CaptionHouse.HANG), 1);
        Checks.due("it is let go", house.faults(1) + " " + house.faults(0), "1 2");
    }

    private static void letGoEnds() {
        CaptionHouse house = Houses.film(100, 100);
        house.add(95, 50);
        house.add(95, 50);
        for (int tongue = 0; tongue < 3; tongue++) {
            house.letGo(0, tongue, CaptionHouse.HANG, 7);
            house.letGo(1, tongue, CaptionHouse.HANG, 7);
        }
        house.type(0, 0, 'a');
        Checks.due("typed", house.nameOf(0, 0, 3) + " " + house.nameOf(0, 1, 3) + " " + house.nameOf(0, 2, 3), "0 7 7");
        Checks.due("another caption", house.nameOf(1, 0, 3), 7);
        house.type(0, 1, 'a');
        Checks.due("typed", house.nameOf(0, 1, 3), 0);
        house.letGo(0, 1, CaptionHouse.HANG, 8);
        house.erase(0, 1);
        Checks.due("erased", house.nameOf(0, 1, 3), 0);
        house.lay(0, 95, 50);
        Checks.due("laid anew", house.nameOf(0, 2, 3), 0);
        house.setLook(1, CaptionHouse.SONG);
        Checks.due("another look", house.nameOf(1, 0, 3) + house.nameOf(1, 1, 3) + house.nameOf(1, 2, 3), 0);
    }

    private static void letGoRefused() {
        CaptionHouse house = Houses.film(100);
        house.add(0, 50);
        house.type(0, 1, 'a');
        for (int rule = 1; rule < 8; rule++) {
            int other = rule;
            Checks.noState(house, "letGo of " + rule, () -> house.letGo(0, 0, other, 5));
        }
        Checks.noState(house, "letGo of EMPTY", () -> house.letGo(0, 1, CaptionHouse.EMPTY, 5));
        for (int name : new int[] {0, 100, -1, Integer.MIN_VALUE, Integer.MAX_VALUE}) {
            Checks.noArgument(house, "letGo by " + name, () -> house.letGo(0, 0, CaptionHouse.EMPTY, name));
            Checks.noArgument(house, "letGo of OUT by " + name, () -> house.letGo(0, 0, CaptionHouse.OUT, name));
        }
        for (int rule : new int[] {-1, 8, Integer.MIN_VALUE, Integer.MAX_VALUE}) {
            Checks.noIndex(house, "letGo of " + rule, () -> house.letGo(0, 0, rule, 0));
            Checks.noIndex(house, "nameOf " + rule, () -> house.nameOf(0, 0, rule));
        }
        for (int wrong : WRONG) {
            Checks.noIndex(house, "letGo in no tongue", () -> house.letGo(0, wrong, 0, 5));
            Checks.noIndex(house, "letGo of no caption", () -> house.letGo(wrong, 0, 0, 0));
            Checks.noIndex(house, "nameOf no tongue", () -> house.nameOf(0, wrong, 0));
            Checks.noIndex(house, "nameOf no caption", () -> house.nameOf(wrong, 0, 0));
        }
    }

    private static void faults() {
        CaptionHouse house = Houses.film(100, 100);
        house.add(95, 50);
        house.add(95, 50);
        Checks.due("faults", house.faults(0) + " " + house.faults(1) + " " + house.faults(2), "5 5 5");
        house.letGo(0, 0, CaptionHouse.EMPTY, 5);
        house.letGo(0, 0, CaptionHouse.CLOSE, 5);
        Checks.due("faults", house.faults(0) + " " + house.faults(1) + " " + house.faults(2), "3 5 5");
        house.type(1, 2, 'a');
        Checks.due("faults", house.faults(0) + " " + house.faults(1) + " " + house.faults(2), "3 5 4");
        for (int wrong : WRONG) {
            Checks.noIndex(house, "faults", () -> house.faults(wrong));
        }
    }
}

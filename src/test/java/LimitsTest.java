/** A house that holds as much as it may: the last of everything is there, and is told from its neighbours. */
final class LimitsTest {
    private LimitsTest() {
    }

    public static void main(String[] args) {
        fullFilm();
        fullTexts();
        fullMemories();
        fullNames();
        Checks.end("LimitsTest");
    }

    private static CaptionHouse full() {
        CaptionHouse house = new CaptionHouse();
        for (int i = 0; i < 12; i++) {
            house.addShot(400);
        }
        for (int i = 0; i < 16; i++) {
            house.add(4550, 250);
        }
        return house;
    }

    private static void fullFilm() {
        CaptionHouse house = full();
        Checks.due("frameAt(4799)", house.frameAt(4799), 11399);
        Checks.due("placeOf(11, 399)", house.placeOf(11, 399), 4799);
        Checks.due("startOf(15)", house.startOf(15) + "+" + house.lengthOf(15), "4550+250");
        Checks.due("move(4799, 1, 0)", house.move(4799, 1, 0), 16);
        Checks.due("the ends", house.frameAt(0) + " " + house.frameAt(1) + " " + house.frameAt(4799), "11399 0 11398");
        Checks.due("move(0, 1, 4799)", house.move(0, 1, 4799), 16);
        Checks.due("the ends", house.frameAt(0) + " " + house.frameAt(4799), "0 11399");
        Checks.due("move(0, 4800, 0)", house.move(0, 4800, 0), 0);
        Checks.due("cut(0, 1)", house.cut(0, 1), 4799);
        Checks.due("behind it", house.frameAt(4798) + " " + house.placeOf(11, 399), "11399 4798");
        Checks.due("startOf(15)", house.startOf(15) + "+" + house.lengthOf(15), "4549+250");
        Checks.due("putBack(0, 0, 1, 0)", house.putBack(0, 0, 1, 0), 4800);
        Checks.due("behind it", house.frameAt(4799) + " " + house.placeOf(11, 399), "11399 4799");
        Checks.due("cut(0, 4800)", house.cut(0, 4800), 0);
        Checks.due("out", house.startOf(0) + " " + house.inOrder(0), "-1 -1");
        for (int shot = 0; shot < 12; shot++) {
            Checks.due("putBack", house.putBack(shot, 0, 400, 0), 400 * (shot + 1));
        }
        Checks.due("the ends", house.frameAt(0) + " " + house.frameAt(4799), "11000 399");
        Checks.due("startOf(0)", house.startOf(0) + "+" + house.lengthOf(0), "150+250");
    }

    private static void fullTexts() {
        CaptionHouse house = full();
        for (int caption = 0; caption < 16; caption++) {
            for (int tongue = 2; tongue >= 0; tongue--) {
                Houses.type(house, caption, tongue, new String(Character.toChars(1000 + 3 * caption + tongue)).repeat(60));
            }
        }
        for (int caption = 0; caption < 16; caption++) {
            for (int tongue = 0; tongue < 3; tongue++) {
                int due = 1000 + 3 * caption + tongue;
                Checks.due("the first sign", house.signAt(caption, tongue, 0), due);
                Checks.due("the last sign", house.signAt(caption, tongue, 59), due);
                Checks.due("isStale", house.isStale(caption, tongue), tongue > 0);
            }
        }
    }

    private static String original(int number) {
        return String.valueOf((char) ('a' + number)).repeat(60);
    }

    private static String made(int number, int tongue) {
        return String.valueOf((char) (tongue == 1 ? 'A' + number : '0' + number)).repeat(60);
    }

    private static void fullMemories() {
        CaptionHouse house = full();
        for (int i = 0; i < 8; i++) {
            Houses.type(house, i, 0, original(i));
            for (int tongue = 1; tongue < 3; tongue++) {
                Houses.type(house, i, tongue, made(i, tongue));
                Checks.due("confirm", house.confirm(i, tongue), i + 1);
            }
            Houses.type(house, 15 - i, 0, original(i));
        }
        for (int tongue = 1; tongue < 3; tongue++) {
            Checks.due("fill", house.fill(tongue), 8);
            for (int i = 0; i < 8; i++) {
                Checks.due("signs", house.signs(15 - i, tongue), 60);
                Checks.due("the first sign", house.signAt(15 - i, tongue, 0), (int) made(i, tongue).charAt(0));
                Checks.due("the last sign", house.signAt(15 - i, tongue, 59), (int) made(i, tongue).charAt(0));
            }
        }
    }

    private static void fullNames() {
        CaptionHouse house = full();
        house.cut(4550, 250);
        for (int caption = 0; caption < 16; caption++) {
            house.setLook(caption, CaptionHouse.TWO);
            for (int tongue = 2; tongue >= 0; tongue--) {
                house.type(caption, tongue, 'a');
            }
        }
        int[] rules = {CaptionHouse.STALE, CaptionHouse.OUT, CaptionHouse.VOICES};
        for (int i = 0; i < 96; i++) {
            Checks.due("letGo", house.letGo(i / 6, 1 + i / 3 % 2, rules[i % 3], i + 1), 0);
        }
        for (int i = 0; i < 96; i++) {
            Checks.due("nameOf", house.nameOf(i / 6, 1 + i / 3 % 2, rules[i % 3]), i + 1);
        }
        Checks.due("faults", house.faults(0) + " " + house.faults(1) + " " + house.faults(2), "32 0 0");
    }
}

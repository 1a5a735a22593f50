/** Promises 1 to 9: a new object and the film. */
final class FilmTest {
    private FilmTest() {
    }

    public static void main(String[] args) {
        newHouse();
        addShot();
        cut();
        cutRefused();
        move();
        moveRefused();
        putBack();
        putBackRefused();
        places();
        boundaries();
        Checks.end("FilmTest");
    }

    private static void newHouse() {
        CaptionHouse house = new CaptionHouse();
        Checks.due("frames()", house.frames(), 0);
        Checks.due("captions()", house.captions(), 0);
        Checks.due("inOrder(0)", house.inOrder(0), CaptionHouse.NONE);
        Checks.due("setLimits(9, 9)", house.setLimits(9, 9), 32);
        for (int tongue = 0; tongue < 3; tongue++) {
            Checks.due("faults", house.faults(tongue), 0);
            Checks.due("written", house.written(0, tongue) + house.written(1, tongue), 0);
        }
        Checks.due("memory", house.memory(1) + house.memory(2), 0);
        Checks.noIndex(house, "startOf(0)", () -> house.startOf(0));
        Checks.noIndex(house, "frameAt(0)", () -> house.frameAt(0));
        Checks.noIndex(house, "placeOf(0, 0)", () -> house.placeOf(0, 0));
        Checks.noIndex(house, "cut(0, 1)", () -> house.cut(0, 1));
        Checks.noIndex(house, "cut(0, 0)", () -> house.cut(0, 0));
        Checks.noIndex(house, "add(0, 1)", () -> house.add(0, 1));
    }

    private static void addShot() {
        CaptionHouse house = new CaptionHouse();
        Checks.noArgument(house, "addShot(0)", () -> house.addShot(0));
        Checks.noArgument(house, "addShot(401)", () -> house.addShot(401));
        Checks.noArgument(house, "addShot(MIN)", () -> house.addShot(Integer.MIN_VALUE));
        Checks.noArgument(house, "addShot(MAX)", () -> house.addShot(Integer.MAX_VALUE));
        for (int shot = 0; shot < 12; shot++) {
            Checks.due("addShot", house.addShot(shot == 3 ? 1 : 400), shot);
        }
        Checks.due("frames()", house.frames(), 11 * 400 + 1);
        Checks.due("frameAt(1200)", house.frameAt(1200), 3000);
        Checks.due("frameAt(4400)", house.frameAt(4400), 11399);
        Checks.noState(house, "addShot(1)", () -> house.addShot(1));
        Checks.noArgument(house, "addShot(401) of 12 shots", () -> house.addShot(401));
        CaptionHouse cut = Houses.film(3);
        cut.cut(1, 1);
        Checks.due("addShot(2)", cut.addShot(2), 1);
        Checks.due("a new shot at the end", Houses.frames(cut), "0 2 1000 1001");
    }

    private static void cut() {
        CaptionHouse house = Houses.film(4, 3);
        Checks.due("cut(3, 2)", house.cut(3, 2), 5);
        Checks.due("film", Houses.frames(house), "0 1 2 1001 1002");
        Checks.due("placeOf(0, 3)", house.placeOf(0, 3), CaptionHouse.NONE);
        Checks.due("placeOf(1, 1)", house.placeOf(1, 1), 3);
        Checks.due("cut(4, 1)", house.cut(4, 1), 4);
        Checks.due("cut(0, 1)", house.cut(0, 1), 3);
        Checks.due("film", Houses.frames(house), "1 2 1001");
        Checks.due("cut(0, 3)", house.cut(0, 3), 0);
        Checks.due("frames()", house.frames(), 0);
    }

    private static void cutRefused() {
        CaptionHouse house = Houses.film(4);
        house.add(1, 2);
        Checks.noIndex(house, "cut(-1, 1)", () -> house.cut(-1, 1));
        Checks.noIndex(house, "cut(4, 1)", () -> house.cut(4, 1));
        Checks.noIndex(house, "cut(4, 0)", () -> house.cut(4, 0));
        Checks.noIndex(house, "cut(-1, -1)", () -> house.cut(-1, -1));
        Checks.noIndex(house, "cut(2, 3)", () -> house.cut(2, 3));
        Checks.noIndex(house, "cut(3, MAX)", () -> house.cut(3, Integer.MAX_VALUE));
        Checks.noArgument(house, "cut(3, 0)", () -> house.cut(3, 0));
        Checks.noArgument(house, "cut(0, MIN)", () -> house.cut(0, Integer.MIN_VALUE));
    }

    private static void move() {
        CaptionHouse house = Houses.film(6);
        house.add(0, 2);
        house.add(1, 4);
        house.add(5, 1);
        Checks.due("move(0, 2, 4)", house.move(0, 2, 4), 3);
        Checks.due("film", Houses.frames(house), "2 3 4 5 0 1");
        Checks.due("starts", house.startOf(0) + " " + house.startOf(1) + " " + house.startOf(2), "4 0 3");
        Checks.due("lengthOf(1)", house.lengthOf(1), 3);
        Checks.due("placeOf(0, 0)", house.placeOf(0, 0), 4);
        Checks.due("move(2, 3, 2)", house.move(2, 3, 2), 0);
        Checks.due("move(0, 6, 0)", house.move(0, 6, 0), 0);
        Checks.due("move(4, 2, 0)", house.move(4, 2, 0), 3);
        Checks.due("film", Houses.frames(house), "0 1 2 3 4 5");
        Checks.due("move(1, 1, 2)", house.move(1, 1, 2), 1);
        Checks.due("film", Houses.frames(house), "0 2 1 3 4 5");
        Checks.due("a shorter one at the same start", house.startOf(0) + " " + house.lengthOf(0), "0 1");
        Checks.due("the other one", house.startOf(1) + " " + house.lengthOf(1), "1 4");
    }

    private static void moveRefused() {
        CaptionHouse house = Houses.film(5);
        house.add(1, 2);
        Checks.noIndex(house, "move(-1, 1, 0)", () -> house.move(-1, 1, 0));
        Checks.noIndex(house, "move(5, 0, 0)", () -> house.move(5, 0, 0));
        Checks.noIndex(house, "move(3, 3, 0)", () -> house.move(3, 3, 0));
        Checks.noIndex(house, "move(3, MAX, 0)", () -> house.move(3, Integer.MAX_VALUE, 0));
        Checks.noIndex(house, "move(0, 2, 4)", () -> house.move(0, 2, 4));
        Checks.noIndex(house, "move(0, 2, -1)", () -> house.move(0, 2, -1));
        Checks.noIndex(house, "move(0, 1, 5)", () -> house.move(0, 1, 5));
        Checks.noIndex(house, "move(4, 1, -1)", () -> house.move(4, 1, -1));
        Checks.noIndex(house, "move(0, 5, 1)", () -> house.move(0, 5, 1));
        Checks.noArgument(house, "move(0, 0, 9)", () -> house.move(0, 0, 9));
        Checks.noArgument(house, "move(4, MIN, -1)", () -> house.move(4, Integer.MIN_VALUE, -1));
    }

    private static void putBack() {
        CaptionHouse house = Houses.film(5, 3);
        house.cut(1, 6);
        Checks.due("film", Houses.frames(house), "0 1002");
        Checks.due("putBack(0, 2, 3, 0)", house.putBack(0, 2, 3, 0), 5);
        Checks.due("film", Houses.frames(house), "2 3 4 0 1002");
        Checks.due("putBack(1, 0, 1, 5)", house.putBack(1, 0, 1, 5), 6);
        Checks.due("putBack(0, 1, 1, 3)", house.putBack(0, 1, 1, 3), 7);
        Checks.due("film", Houses.frames(house), "2 3 4 1 0 1002 1000");
        Checks.due("placeOf(1, 0)", house.placeOf(1, 0), 6);
        house.cut(0, 7);
        Checks.due("putBack(0, 0, 5, 0)", house.putBack(0, 0, 5, 0), 5);
        Checks.due("film", Houses.frames(house), "0 1 2 3 4");
    }

    private static void putBackRefused() {
        CaptionHouse house = Houses.film(5, 3);
        house.add(0, 8);
        house.cut(1, 3);
        Checks.noIndex(house, "putBack(2, 0, 1, 0)", () -> house.putBack(2, 0, 1, 0));
        Checks.noIndex(house, "putBack(-1, 0, 1, 0)", () -> house.putBack(-1, 0, 1, 0));
        Checks.noIndex(house, "putBack(0, 5, 0, 0)", () -> house.putBack(0, 5, 0, 0));
        Checks.noIndex(house, "putBack(0, -1, 1, 0)", () -> house.putBack(0, -1, 1, 0));
        Checks.noIndex(house, "putBack(0, 3, 3, 0)", () -> house.putBack(0, 3, 3, 0));
        Checks.noIndex(house, "putBack(0, 3, MAX, 0)", () -> house.putBack(0, 3, Integer.MAX_VALUE, 0));
        Checks.noIndex(house, "putBack(0, 1, 1, 6)", () -> house.putBack(0, 1, 1, 6));
        Checks.noIndex(house, "putBack(0, 1, 1, -1)", () -> house.putBack(0, 1, 1, -1));
        Checks.noIndex(house, "putBack(0, 0, 1, 6)", () -> house.putBack(0, 0, 1, 6));
        Checks.noArgument(house, "putBack(0, 0, 0, 9)", () -> house.putBack(0, 0, 0, 9));
        Checks.noArgument(house, "putBack(1, 2, MIN, -1)", () -> house.putBack(1, 2, Integer.MIN_VALUE, -1));
        Checks.noState(house, "putBack(0, 0, 2, 0)", () -> house.putBack(0, 0, 2, 0));
        Checks.noState(house, "putBack(0, 1, 4, 5)", () -> house.putBack(0, 1, 4, 5));
        Checks.noState(house, "putBack(1, 2, 1, 0)", () -> house.putBack(1, 2, 1, 0));
        Checks.due("putBack(0, 1, 3, 5)", house.putBack(0, 1, 3, 5), 8);
    }

    private static void places() {
        CaptionHouse house = Houses.film(2, 400);
        Checks.due("frames()", house.frames(), 402);
        Checks.due("frameAt(1)", house.frameAt(1), 1);
        Checks.due("frameAt(401)", house.frameAt(401), 1399);
        Checks.due("placeOf(1, 399)", house.placeOf(1, 399), 401);
        Checks.noIndex(house, "frameAt(-1)", () -> house.frameAt(-1));
        Checks.noIndex(house, "frameAt(402)", () -> house.frameAt(402));
        Checks.noIndex(house, "placeOf(-1, 0)", () -> house.placeOf(-1, 0));
        Checks.noIndex(house, "placeOf(2, 0)", () -> house.placeOf(2, 0));
        Checks.noIndex(house, "placeOf(0, 2)", () -> house.placeOf(0, 2));
        Checks.noIndex(house, "placeOf(1, -1)", () -> house.placeOf(1, -1));
        Checks.noIndex(house, "placeOf(MAX, MAX)", () -> house.placeOf(Integer.MAX_VALUE, Integer.MAX_VALUE));
        house.cut(0, 402);
        Checks.due("placeOf(1, 399) in the bin", house.placeOf(1, 399), CaptionHouse.NONE);
        Checks.noIndex(house, "frameAt(0)", () -> house.frameAt(0));
    }

    private static void boundaries() {
        CaptionHouse house = Houses.film(400, 3);
        Checks.due("isBoundary(0)", house.isBoundary(0), false);
        Checks.due("isBoundary(399)", house.isBoundary(399), false);
        Checks.due("isBoundary(400)", house.isBoundary(400), true);
        Checks.due("isBoundary(401)", house.isBoundary(401), false);
        house.cut(10, 1);
        Checks.due("isBoundary(10) of a gap", house.isBoundary(10), true);
        Checks.due("isBoundary(11)", house.isBoundary(11), false);
        house.putBack(0, 10, 1, 10);
        Checks.due("isBoundary(10) of no gap", house.isBoundary(10), false);
        house.move(1, 1, 0);
        Checks.due("isBoundary(1) of frames turned", house.isBoundary(1), true);
        house.move(401, 2, 0);
        Checks.due("isBoundary(0)", house.isBoundary(0), false);
        Checks.noIndex(house, "isBoundary(-1)", () -> house.isBoundary(-1));
        Checks.noIndex(house, "isBoundary(403)", () -> house.isBoundary(403));
    }
}

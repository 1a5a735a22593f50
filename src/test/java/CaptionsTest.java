/** Promises 10 to 17: captions and their times. */
final class CaptionsTest {
    private CaptionsTest() {
    }

    public static void main(String[] args) {
        add();
        addRefused();
        lay();
        layRefused();
        setLook();
        longestRun();
        earliestRun();
        out();
        wrongCaptions();
        inOrder();
        Checks.end("CaptionsTest");
    }

    private static void add() {
        CaptionHouse house = Houses.film(300);
        for (int caption = 0; caption < 16; caption++) {
            Checks.due("add", house.add(caption, caption == 7 ? 250 : caption + 1), caption);
            Checks.due("captions()", house.captions(), caption + 1);
        }
        Checks.due("time of 7", Houses.time(house, 7), "7+250");
        Checks.due("time of 15", Houses.time(house, 15), "15+16");
        Checks.noState(house, "add(0, 1)", () -> house.add(0, 1));
        Checks.noArgument(house, "add(0, 0) of 16", () -> house.add(0, 0));
        Checks.noIndex(house, "add(300, 0) of 16", () -> house.add(300, 0));
    }

    private static void addRefused() {
        CaptionHouse house = Houses.film(300);
        Checks.noIndex(house, "add(-1, 1)", () -> house.add(-1, 1));
        Checks.noIndex(house, "add(300, 1)", () -> house.add(300, 1));
        Checks.noIndex(house, "add(300, 251)", () -> house.add(300, 251));
        Checks.noIndex(house, "add(51, 250)", () -> house.add(51, 250));
        Checks.noIndex(house, "add(299, 2)", () -> house.add(299, 2));
        Checks.noArgument(house, "add(299, 251)", () -> house.add(299, 251));
        Checks.noArgument(house, "add(0, MAX)", () -> house.add(0, Integer.MAX_VALUE));
        Checks.noArgument(house, "add(0, MIN)", () -> house.add(0, Integer.MIN_VALUE));
        Checks.noArgument(house, "add(0, 0)", () -> house.add(0, 0));
        Checks.due("add(50, 250)", house.add(50, 250), 0);
    }

    private static void lay() {
        CaptionHouse house = Houses.film(100);
        house.add(10, 5);
        Checks.due("lay(0, 12, 20)", house.lay(0, 12, 20), 10);
        Checks.due("time", Houses.time(house, 0), "12+20");
        house.cut(0, 40);
        Checks.due("lay(0, 0, 3) of one that is out", house.lay(0, 0, 3), CaptionHouse.NONE);
        house.putBack(0, 0, 40, 0);
        Checks.due("only the new frames count", Houses.time(house, 0), "40+3");
        house.letGo(0, 0, CaptionHouse.EMPTY, 5);
        house.letGo(0, 2, CaptionHouse.EMPTY, 6);
        Checks.due("lay at the same place", house.lay(0, 40, 3), 40);
        Checks.due("no name holds", house.nameOf(0, 0, 0) + house.nameOf(0, 2, 0), 0);
    }

    private static void layRefused() {
        CaptionHouse house = Houses.film(300);
        house.add(10, 5);
        house.letGo(0, 0, CaptionHouse.EMPTY, 5);
        Checks.noIndex(house, "lay(1, 0, 1)", () -> house.lay(1, 0, 1));
        Checks.noIndex(house, "lay(-1, 0, 0)", () -> house.lay(-1, 0, 0));
        Checks.noIndex(house, "lay(0, 300, 0)", () -> house.lay(0, 300, 0));
        Checks.noIndex(house, "lay(0, -1, 1)", () -> house.lay(0, -1, 1));
        Checks.noIndex(house, "lay(0, 299, 2)", () -> house.lay(0, 299, 2));
        Checks.noArgument(house, "lay(0, 299, 251)", () -> house.lay(0, 299, 251));
        Checks.noArgument(house, "lay(0, 299, 0)", () -> house.lay(0, 299, 0));
    }

    private static void setLook() {
        CaptionHouse house = Houses.film(100);
        house.add(0, 50);
        house.letGo(0, 1, CaptionHouse.EMPTY, 5);
        Checks.due("setLook(0, SPEECH)", house.setLook(0, CaptionHouse.SPEECH), CaptionHouse.SPEECH);
        Checks.due("the same look lets the name hold", house.nameOf(0, 1, 0), 5);
        Checks.due("setLook(0, TWO)", house.setLook(0, CaptionHouse.TWO), CaptionHouse.SPEECH);
        Checks.due("another look ends it", house.nameOf(0, 1, 0), 0);
        Checks.due("setLook(0, SONG)", house.setLook(0, CaptionHouse.SONG), CaptionHouse.TWO);
        Checks.due("setLook(0, SIGN)", house.setLook(0, CaptionHouse.SIGN), CaptionHouse.SONG);
        Checks.noArgument(house, "setLook(0, 4)", () -> house.setLook(0, 4));
        Checks.noArgument(house, "setLook(0, -1)", () -> house.setLook(0, -1));
        Checks.noIndex(house, "setLook(1, 4)", () -> house.setLook(1, 4));
        Checks.noIndex(house, "setLook(-1, 0)", () -> house.setLook(-1, 0));
        Checks.due("setLook(0, SIGN)", house.setLook(0, CaptionHouse.SIGN), CaptionHouse.SIGN);
    }

    private static void longestRun() {
        CaptionHouse house = Houses.film(100);
        house.add(20, 30);
        house.cut(30, 5);
        Checks.due("a gap closes", Houses.time(house, 0), "20+25");
        house.move(0, 10, 25);
        Checks.due("the longer run", Houses.time(house, 0), "10+15");
        house.putBack(0, 30, 5, 40);
        Checks.due("of the same length, but later", Houses.time(house, 0), "10+15");
        house.cut(24, 1);
        Checks.due("longer now", Houses.time(house, 0), "34+15");
    }

    private static void earliestRun() {
        CaptionHouse house = Houses.film(60);
        house.add(10, 20);
        house.move(40, 10, 20);
        Checks.due("of two runs the earliest", Houses.time(house, 0), "10+10");
        house.cut(10, 1);
        Checks.due("the second one is longer", Houses.time(house, 0), "29+10");
        house.putBack(0, 10, 1, 0);
        Checks.due("a third one", Houses.time(house, 0), "30+10");
        house.move(30, 10, 1);
        Checks.due("joined", Houses.time(house, 0), "0+11");
    }

    private static void out() {
        CaptionHouse house = Houses.film(60);
        house.add(10, 3);
        house.cut(10, 3);
        Checks.due("out", Houses.time(house, 0), "-1+0");
        house.addShot(20);
        Checks.due("still out", Houses.time(house, 0), "-1+0");
        house.putBack(0, 12, 1, 57);
        Checks.due("in again", Houses.time(house, 0), "57+1");
        house.putBack(0, 10, 2, 58);
        Checks.due("in any order", Houses.time(house, 0), "57+3");
    }

    private static void wrongCaptions() {
        CaptionHouse house = Houses.film(60);
        house.add(10, 3);
        for (int caption : new int[] {-1, 1, 16, Integer.MIN_VALUE, Integer.MAX_VALUE}) {
            Checks.noIndex(house, "startOf", () -> house.startOf(caption));
            Checks.noIndex(house, "lengthOf", () -> house.lengthOf(caption));
            Checks.noIndex(house, "startByFrames", () -> house.startByFrames(caption));
        }
    }

    private static void inOrder() {
        CaptionHouse house = Houses.film(100);
        house.add(30, 5);
        house.add(10, 5);
        house.add(30, 9);
        house.add(50, 5);
        house.add(10, 1);
        StringBuilder order = new StringBuilder();
        for (int place = 0; place < 6; place++) {
            order.append(house.inOrder(place)).append(' ');
        }
        Checks.due("order", order.toString(), "1 4 0 2 3 -1 ");
        house.cut(10, 1);
        Checks.due("inOrder(0)", house.inOrder(0), 1);
        Checks.due("inOrder(1)", house.inOrder(1), 0);
        Checks.due("inOrder(4)", house.inOrder(4), CaptionHouse.NONE);
        Checks.due("inOrder(MAX)", house.inOrder(Integer.MAX_VALUE), CaptionHouse.NONE);
        Checks.noArgument(house, "inOrder(-1)", () -> house.inOrder(-1));
        Checks.noArgument(house, "inOrder(MIN)", () -> house.inOrder(Integer.MIN_VALUE));
    }
}

/** Houses with which the tests of boundaries begin, and what is asked of them often. */
final class Houses {
    private Houses() {
    }

    static CaptionHouse film(int... shots) {
        CaptionHouse house = new CaptionHouse();
        for (int frames : shots) {
            house.addShot(frames);
        }
        return house;
    }

    /** 12 shots with 400 frames each. */
    static CaptionHouse longest() {
        return film(400, 400, 400, 400, 400, 400, 400, 400, 400, 400, 400, 400);
    }

    /** Captions of 5 frames, 10 apart. */
    static CaptionHouse captions(int count) {
        CaptionHouse house = film(200);
        for (int i = 0; i < count; i++) {
            house.add(10 * i, 5);
        }
        return house;
    }

    /** A caption of 250 frames, with a text in the tongue 0. */
    static CaptionHouse text(String text) {
        CaptionHouse house = film(300);
        house.add(0, 250);
        type(house, 0, 0, text);
        return house;
    }

    static void type(CaptionHouse house, int caption, int tongue, String text) {
        text.codePoints().forEach(sign -> house.type(caption, tongue, sign));
    }

    /** Puts a text in place of the one that is there. */
    static void put(CaptionHouse house, int caption, int tongue, String text) {
        while (house.signs(caption, tongue) > 0) {
            house.erase(caption, tongue);
        }
        type(house, caption, tongue, text);
    }

    static String frames(CaptionHouse house) {
        StringBuilder text = new StringBuilder();
        for (int place = 0; place < house.frames(); place++) {
            text.append(place > 0 ? " " : "").append(house.frameAt(place));
        }
        return text.toString();
    }

    static String text(CaptionHouse house, int caption, int tongue) {
        StringBuilder text = new StringBuilder();
        for (int i = 0; i < house.signs(caption, tongue); i++) {
            text.appendCodePoint(house.signAt(caption, tongue, i));
        }
        return text.toString();
    }

    static String rows(CaptionHouse house) {
        StringBuilder rows = new StringBuilder();
        for (int i = 0; i < house.rows(0, 0); i++) {
            rows.append(i > 0 ? " " : "").append(house.row(0, 0, i));
        }
        return rows.toString();
    }

    static String time(CaptionHouse house, int caption) {
        Checks.due("startByFrames", house.startByFrames(caption), house.startOf(caption));
        return house.startOf(caption) + "+" + house.lengthOf(caption);
    }

    static boolean breaks(CaptionHouse house, int caption, int tongue, int rule) {
        return (house.broken(caption, tongue) >> rule & 1) == 1;
    }
}

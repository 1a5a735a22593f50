/** All that calls without an effect tell about a house, as one text. It asks more often than 512 times, which the class does not count. */
final class State {
    private State() {
    }

    static String of(CaptionHouse house) {
        StringBuilder text = new StringBuilder();
        addFilm(house, text);
        for (int caption = 0; caption < house.captions(); caption++) {
            text.append("\ncaption ").append(caption).append(" at ").append(house.startOf(caption));
            text.append(' ').append(house.lengthOf(caption)).append(' ').append(house.inOrder(caption));
            for (int tongue = 0; tongue < 3; tongue++) {
                addText(house, caption, tongue, text);
            }
        }
        for (int tongue = 0; tongue < 3; tongue++) {
            text.append("\ntongue ").append(tongue).append(' ').append(house.faults(tongue));
            text.append(' ').append(tongue > 0 ? house.memory(tongue) : 0);
            text.append(' ').append(page(house, 0, tongue)).append(' ').append(page(house, 1, tongue));
        }
        return text.toString();
    }

    static String page(CaptionHouse house, int format, int tongue) {
        StringBuilder page = new StringBuilder();
        int length = house.written(format, tongue);
        for (int i = 0; i < length; i++) {
            page.append(house.writtenChar(format, tongue, i));
        }
        return page.toString();
    }

    private static void addFilm(CaptionHouse house, StringBuilder text) {
        text.append("film of ").append(house.frames()).append(':');
        for (int place = 0; place < house.frames(); place++) {
            text.append(' ').append(house.frameAt(place)).append(house.isBoundary(place) ? "!" : "");
        }
        for (int shot = 0; shot < 12; shot++) {
            text.append("\nshot ").append(shot).append(':');
            for (int frame = 0; frame < 400; frame++) {
                int of = shot;
                int at = frame;
                String place = Checks.outcome(() -> house.placeOf(of, at));
                if (place.startsWith("throws")) {
                    break;
                }
                text.append(' ').append(place);
            }
        }
    }

    private static void addText(CaptionHouse house, int caption, int tongue, StringBuilder text) {
        text.append("\n text ").append(tongue).append(':');
        for (int i = 0; i < house.signs(caption, tongue); i++) {
            text.append(' ').append(house.signAt(caption, tongue, i));
        }
        text.append(" width ").append(house.width(caption, tongue)).append(" rows");
        for (int i = 0; i < house.rows(caption, tongue); i++) {
            text.append(' ').append(house.row(caption, tongue, i));
        }
        text.append(house.isStale(caption, tongue) ? " stale" : "");
        text.append(" broken ").append(house.broken(caption, tongue)).append(" names");
        for (int rule = 0; rule < 8; rule++) {
            text.append(' ').append(house.nameOf(caption, tongue, rule));
        }
    }
}

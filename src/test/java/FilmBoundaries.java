import java.util.ArrayList;
import java.util.Collections;
import java.util.List;

/** The sentences about the film: promises 1 to 9, and the terms that they need. */
final class FilmBoundaries {
    private FilmBoundaries() {
    }

    static void run() {
        terms();
        newAndShots();
        cuts();
        moves();
        putsBack();
        questions();
    }

    private static void terms() {
        Sentences.holds("What it is", "An object is used for at most 512 calls after it has been made;", FilmBoundaries::allCalls);
        Sentences.holds("Terms", "Shots are numbered from 0, at most 12;", FilmBoundaries::shotNumbers);
        Sentences.holds("Terms", "a shot has frames, numbered from 0.", FilmBoundaries::frameNumbers);
        Sentences.holds("Terms", "The film is a row of frames, of which each is a frame of a shot, and none is there twice;", FilmBoundaries::noneTwice);
        Sentences.holds("Terms", "a place is told by how many frames are ahead of it.", FilmBoundaries::places);
        Sentences.holds("Terms", "A new shot is put at the end, with all its frames.", FilmBoundaries::shotAtEnd);
        Sentences.holds("Terms", "The film is a row of frames,", FilmBoundaries::fullRow);
        Sentences.holds("Terms", "Frames that are taken out are in the bin, and can be put back.", FilmBoundaries::bin);
        Sentences.holds("Terms", "There is a boundary at a place above 0", FilmBoundaries::boundaryAboveNought);
        Sentences.holds("Terms", "if the frame there is not the next frame of the same shot as the frame ahead of it.", FilmBoundaries::nextFrames);
    }

    private static void newAndShots() {
        Sentences.holds("Promise 1", "Begins without shots and captions.", FilmBoundaries::empty);
        Sentences.plain("Promise 2", "Adds a shot.");
        Sentences.holds("Promise 2", "`frames`: 1 to 400", FilmBoundaries::shotLengths);
        Sentences.holds("Promise 2", "Returns its number.", FilmBoundaries::shotNumbers);
        Sentences.holds("Promise 2", "Throws `IllegalArgumentException` if frames is out of range", FilmBoundaries::wrongShotLengths);
        Sentences.holds("Promise 2", "Throws `IllegalStateException` if there are 12", FilmBoundaries::shotNumbers);
    }

    private static void cuts() {
        Sentences.plain("Promise 3", "Takes frames out of the film, into the bin.");
        Sentences.holds("Promise 3", "`from`: the place of the first one", FilmBoundaries::cutFrom);
        Sentences.holds("Promise 3", "`count`: 1 or more", FilmBoundaries::cutCount);
        Sentences.holds("Promise 3", "Returns how many frames the film has then.", FilmBoundaries::cutReturns);
        Sentences.holds("Promise 3", "Throws `IndexOutOfBoundsException` if from is no place of the film,", FilmBoundaries::cutFrom);
        Sentences.holds("Promise 3", "or count is 1 or more, and there are not so many frames from there on", FilmBoundaries::cutTooMany);
        Sentences.holds("Promise 3", "Throws `IllegalArgumentException` if count is below 1", FilmBoundaries::cutTooFew);
    }

    private static void moves() {
        Sentences.plain("Promise 4", "Moves frames to another place.");
        Sentences.holds("Promise 4", "`from`: the place of the first one", FilmBoundaries::moveFrom);
        Sentences.holds("Promise 4", "`count`: 1 or more", FilmBoundaries::moveCount);
        Sentences.holds("Promise 4", "`to`: the place of the first one then, 0 to the number of the other frames", FilmBoundaries::moveTo);
        Sentences.holds("Promise 4", "Returns how many captions have another start, another length, or another one of having a time or not, by that.", FilmBoundaries::moveReturns);
        Sentences.holds("Promise 4", "Throws `IndexOutOfBoundsException` if from is no place of the film,", FilmBoundaries::moveFrom);
        Sentences.holds("Promise 4", "or count is 1 or more, and either there are not so many frames from there on,", FilmBoundaries::moveTooMany);
        Sentences.holds("Promise 4", "or to is no such place", FilmBoundaries::moveTo);
        Sentences.holds("Promise 4", "Throws `IllegalArgumentException` if count is below 1", FilmBoundaries::moveTooFew);
    }

    private static void putsBack() {
        Sentences.plain("Promise 5", "Puts frames of a shot back into the film.");
        Sentences.holds("Promise 5", "`shot`: a shot", FilmBoundaries::putBackShot);
        Sentences.holds("Promise 5", "`first`: a frame of it, the first one that is put back", FilmBoundaries::putBackFirst);
        Sentences.holds("Promise 5", "`count`: 1 or more", FilmBoundaries::putBackCount);
        Sentences.holds("Promise 5", "`at`: the place of the first one then, 0 to the number of frames of the film", FilmBoundaries::putBackAt);
        Sentences.holds("Promise 5", "Returns how many frames the film has then.", FilmBoundaries::putBackReturns);
        Sentences.holds("Promise 5", "Throws `IndexOutOfBoundsException` if there is no such shot or frame,", FilmBoundaries::putBackNothing);
        Sentences.holds("Promise 5", "or count is 1 or more, and either the shot has not so many frames from there on,", FilmBoundaries::putBackTooMany);
        Sentences.holds("Promise 5", "or at is no such place", FilmBoundaries::putBackAt);
        Sentences.holds("Promise 5", "Throws `IllegalArgumentException` if count is below 1", FilmBoundaries::putBackTooFew);
        Sentences.holds("Promise 5", "Throws `IllegalStateException` if one of these frames is in the film", FilmBoundaries::putBackOnceMore);
    }

    private static void questions() {
        Sentences.holds("Promise 6", "Returns how many frames the film has.", FilmBoundaries::frameCounts);
        Sentences.plain("Promise 7", "Returns which frame is at a place.");
        Sentences.holds("Promise 7", "`place`: a place of the film", FilmBoundaries::places);
        Sentences.holds("Promise 7", "Returns 1000 times the shot, and the number of the frame in it, added.", FilmBoundaries::frameNames);
        Sentences.holds("Promise 7", "Throws `IndexOutOfBoundsException` if there is no such place", FilmBoundaries::noPlaces);
        Sentences.plain("Promise 8", "Returns where a frame of a shot is.");
        Sentences.holds("Promise 8", "`shot`: a shot `frame`: a frame of it", FilmBoundaries::frameNumbers);
        Sentences.holds("Promise 8", "Returns its place; NONE if it is in the bin.", FilmBoundaries::placesOfFrames);
        Sentences.holds("Promise 8", "Throws `IndexOutOfBoundsException` if there is no such shot or frame", FilmBoundaries::noFrames);
        Sentences.plain("Promise 9", "Tells whether there is a boundary at a place.");
        Sentences.holds("Promise 9", "`place`: a place of the film", FilmBoundaries::boundaryAboveNought);
        Sentences.holds("Promise 9", "Throws `IndexOutOfBoundsException` if there is no such place", FilmBoundaries::noBoundaries);
    }

    // ---- terms

    private static void allCalls() {
        CaptionHouse house = Houses.film(10);
        Checks.due("the second call", house.add(0, 10), 0);
        for (int call = 3; call < 512; call += 2) {
            Checks.due("call " + call, house.type(0, 0, 32 + call), 1);
            Checks.due("call " + (call + 1), house.erase(0, 0), 32 + call);
        }
    }

    private static void shotNumbers() {
        CaptionHouse house = new CaptionHouse();
        Checks.noIndex(house, "placeOf(0, 0) without a shot", () -> house.placeOf(0, 0));
        for (int shot = 0; shot < 12; shot++) {
            Checks.due("addShot(1)", house.addShot(1), shot);
        }
        Checks.noState(house, "addShot(1) of 12", () -> house.addShot(1));
        Checks.noState(house, "addShot(400) of 12", () -> house.addShot(400));
        house.cut(0, 12);
        Checks.noState(house, "addShot(1) of 12 in the bin", () -> house.addShot(1));
        Checks.due("putBack(11, 0, 1, 0)", house.putBack(11, 0, 1, 0), 1);
    }

    private static void frameNumbers() {
        CaptionHouse house = Houses.film(1, 400);
        Checks.due("placeOf(0, 0)", house.placeOf(0, 0), 0);
        Checks.due("placeOf(1, 0)", house.placeOf(1, 0), 1);
        Checks.due("placeOf(1, 399)", house.placeOf(1, 399), 400);
        Bounds.range("placeOf in a shot of 1", Bounds.INDEX, () -> house, 0, 0, (of, frame) -> of.placeOf(0, frame));
        Bounds.range("placeOf in a shot of 400", Bounds.INDEX, () -> house, 0, 399, (of, frame) -> of.placeOf(1, frame));
        Bounds.range("placeOf in a shot", Bounds.INDEX, () -> house, 0, 1, (of, shot) -> of.placeOf(shot, 0));
    }

    private static void noneTwice() {
        CaptionHouse house = Houses.film(3);
        Checks.noState(house, "putBack of all", () -> house.putBack(0, 0, 3, 3));
        Checks.due("cut(1, 1)", house.cut(1, 1), 2);
        Checks.due("putBack(0, 1, 1, 0)", house.putBack(0, 1, 1, 0), 3);
        Checks.noState(house, "putBack once more", () -> house.putBack(0, 1, 1, 0));
        Checks.due("the film", Houses.frames(house), "1 0 2");
    }

    /** A film with all frames, cut anew in its midst and at its ends, beside a list for which the same is done. */
    private static void fullRow() {
        CaptionHouse house = Houses.longest();
        List<Integer> row = new ArrayList<>();
        for (int place = 0; place < 4800; place++) {
            row.add(place / 400 * 1000 + place % 400);
        }
        int[][] moves = {{100, 4000, 700}, {700, 4000, 100}, {2400, 2400, 0}, {0, 2400, 2400}, {0, 4799, 1}, {1, 4799, 0}, {4799, 1, 4798}, {1200, 1, 3600}, {3600, 1, 1200}};
        for (int[] move : moves) {
            house.move(move[0], move[1], move[2]);
            List<Integer> part = new ArrayList<>(row.subList(move[0], move[0] + move[1]));
            row.subList(move[0], move[0] + move[1]).clear();
            row.addAll(move[2], part);
            isRow("move(" + move[0] + ", " + move[1] + ", " + move[2] + ")", house, row);
        }
        Collections.sort(row);
        CaptionHouse cut = Houses.longest();
        int[][] cuts = {{2000, 400, 5, 1000}, {1, 1, 0, 2000}, {4400, 400, 11, 0}, {4400, 400, 10, 4400}};
        for (int[] one : cuts) {
            int first = cut.frameAt(one[0]) % 1000;
            cut.cut(one[0], one[1]);
            List<Integer> part = new ArrayList<>(row.subList(one[0], one[0] + one[1]));
            row.subList(one[0], one[0] + one[1]).clear();
            isRow("cut(" + one[0] + ", " + one[1] + ")", cut, row);
            cut.putBack(one[2], first, one[1], one[3]);
            row.addAll(one[3], part);
            isRow("putBack(" + one[2] + ", " + first + ", " + one[1] + ", " + one[3] + ")", cut, row);
        }
    }

    private static void isRow(String what, CaptionHouse house, List<Integer> row) {
        StringBuilder wrong = new StringBuilder();
        Checks.due("frames behind " + what, house.frames(), row.size());
        for (int place = 0; place < row.size(); place++) {
            int frame = row.get(place);
            if (house.frameAt(place) != frame || house.placeOf(frame / 1000, frame % 1000) != place) {
                wrong.append(' ').append(place);
            }
        }
        Checks.due("wrong places behind " + what, wrong, "");
    }

    private static void places() {
        CaptionHouse house = Houses.film(2, 1);
        Checks.due("frameAt", house.frameAt(0) + " " + house.frameAt(1) + " " + house.frameAt(2), "0 1 1000");
        Bounds.range("frameAt", Bounds.INDEX, () -> house, 0, 2, (of, place) -> of.frameAt(place));
        CaptionHouse full = Houses.longest();
        Bounds.range("frameAt", Bounds.INDEX, () -> full, 0, 4799, (of, place) -> of.frameAt(place));
    }

    private static void shotAtEnd() {
        CaptionHouse house = Houses.film(2, 2);
        house.move(2, 2, 0);
        Checks.due("addShot(3)", house.addShot(3), 2);
        Checks.due("the film", Houses.frames(house), "1000 1001 0 1 2000 2001 2002");
        CaptionHouse cut = Houses.film(2);
        cut.cut(0, 2);
        Checks.due("addShot(1)", cut.addShot(1), 1);
        Checks.due("a film of which all was cut", Houses.frames(cut), "1000");
        Checks.due("placeOf(0, 0)", cut.placeOf(0, 0), CaptionHouse.NONE);
    }

    private static void bin() {
        CaptionHouse house = Houses.film(3);
        Checks.due("cut(0, 3)", house.cut(0, 3), 0);
        Checks.due("in the bin", house.placeOf(0, 0) + " " + house.placeOf(0, 1) + " " + house.placeOf(0, 2), "-1 -1 -1");
        Checks.due("putBack(0, 2, 1, 0)", house.putBack(0, 2, 1, 0), 1);
        Checks.due("putBack(0, 0, 2, 1)", house.putBack(0, 0, 2, 1), 3);
        Checks.due("the film", Houses.frames(house), "2 0 1");
        CaptionHouse full = Houses.longest();
        full.cut(0, 4800);
        for (int shot = 11; shot >= 0; shot--) {
            full.putBack(shot, 0, 400, 0);
        }
        Checks.due("all is back", Houses.frames(full), Houses.frames(Houses.longest()));
    }

    private static void boundaryAboveNought() {
        CaptionHouse house = Houses.film(1, 1);
        Checks.due("at 0", house.isBoundary(0), false);
        Checks.due("at 1", house.isBoundary(1), true);
        CaptionHouse cut = Houses.film(3);
        cut.cut(0, 1);
        Checks.due("at 0, where a frame was cut", cut.isBoundary(0), false);
        Bounds.range("isBoundary", Bounds.INDEX, () -> house, 0, 1, (of, place) -> of.isBoundary(place));
        CaptionHouse full = Houses.longest();
        Bounds.range("isBoundary", Bounds.INDEX, () -> full, 0, 4799, (of, place) -> of.isBoundary(place));
        for (int place = 0; place < 4800; place++) {
            Checks.due("isBoundary(" + place + ")", full.isBoundary(place), place > 0 && place % 400 == 0);
        }
    }

    private static void nextFrames() {
        CaptionHouse house = Houses.film(4, 8);
        Checks.due("the next frame", house.isBoundary(3), false);
        Checks.due("the first frame of the next shot behind the last one", house.isBoundary(4), true);
        house.move(8, 4, 4);
        Checks.due("the next number, but of another shot", house.frameAt(3) + " " + house.frameAt(4), "3 1004");
        Checks.due("there", house.isBoundary(4), true);
        house.move(1, 1, 2);
        Checks.due("one frame over", house.frameAt(0) + " " + house.frameAt(1) + " " + house.isBoundary(1), "0 2 true");
        Checks.due("the frame ahead", house.frameAt(1) + " " + house.frameAt(2) + " " + house.isBoundary(2), "2 1 true");
        CaptionHouse ring = Houses.film(2);
        ring.move(1, 1, 0);
        Checks.due("the last frame and the first one", ring.isBoundary(1), true);
        CaptionHouse same = Houses.film(1, 2);
        same.cut(1, 1);
        Checks.due("frames of two shots in a row of numbers", same.frameAt(0) + " " + same.frameAt(1) + " " + same.isBoundary(1), "0 1001 true");
    }

    // ---- a new house and shots

    private static void empty() {
        CaptionHouse house = new CaptionHouse();
        Checks.due("frames and captions", house.frames() + " " + house.captions(), "0 0");
        Checks.due("inOrder", house.inOrder(0) + " " + house.inOrder(Integer.MAX_VALUE), "-1 -1");
        Bounds.refused("frameAt", Bounds.INDEX, house, (of, place) -> of.frameAt(place), -1, 0, 1);
        Bounds.refused("isBoundary", Bounds.INDEX, house, (of, place) -> of.isBoundary(place), -1, 0, 1);
        Bounds.refused("placeOf", Bounds.INDEX, house, (of, shot) -> of.placeOf(shot, 0), -1, 0, 1);
        Bounds.refused("cut", Bounds.INDEX, house, (of, from) -> of.cut(from, 1), -1, 0, 1);
        Bounds.refused("move", Bounds.INDEX, house, (of, from) -> of.move(from, 1, 0), -1, 0, 1);
        Bounds.refused("putBack", Bounds.INDEX, house, (of, shot) -> of.putBack(shot, 0, 1, 0), -1, 0, 1);
        Bounds.refused("add", Bounds.INDEX, house, (of, from) -> of.add(from, 1), -1, 0, 1);
        Bounds.refused("lay", Bounds.INDEX, house, (of, caption) -> of.lay(caption, 0, 1), -1, 0, 1);
        Bounds.refused("startOf", Bounds.INDEX, house, (of, caption) -> of.startOf(caption), -1, 0, 1);
        Bounds.refused("type", Bounds.INDEX, house, (of, caption) -> of.type(caption, 0, 'a'), -1, 0, 1);
        Bounds.refused("broken", Bounds.INDEX, house, (of, caption) -> of.broken(caption, 0), -1, 0, 1);
        Checks.due("fill", house.fill(1) + " " + house.fill(2), "0 0");
    }

    private static void shotLengths() {
        Bounds.range("addShot", Bounds.ARGUMENT, CaptionHouse::new, 1, 400, (house, frames) -> house.addShot(frames));
        Checks.due("frames of a shot with 1", Houses.film(1).frames(), 1);
        Checks.due("frames of a shot with 400", Houses.film(400).frames(), 400);
        Checks.due("frames of shots with 399 and 2", Houses.frames(Houses.film(399, 2)).endsWith(" 398 1000 1001"), true);
    }

    private static void wrongShotLengths() {
        CaptionHouse house = Houses.film(5);
        Bounds.refused("addShot", Bounds.ARGUMENT, house, (of, frames) -> of.addShot(frames), Integer.MIN_VALUE, -1, 0, 401, Integer.MAX_VALUE);
        Checks.due("the next shot", house.addShot(1), 1);
        CaptionHouse full = Houses.longest();
        Bounds.refused("addShot of 12", Bounds.ARGUMENT, full, (of, frames) -> of.addShot(frames), Integer.MIN_VALUE, 0, 401, Integer.MAX_VALUE);
    }

    // ---- cut

    private static void cutFrom() {
        Bounds.range("cut from", Bounds.INDEX, () -> Houses.film(3, 2), 0, 4, (house, from) -> house.cut(from, 1));
        Bounds.range("cut from", Bounds.INDEX, () -> Houses.film(1), 0, 0, (house, from) -> house.cut(from, 1));
        CaptionHouse house = Houses.film(3, 2);
        house.cut(0, 1);
        Checks.due("the first one went", Houses.frames(house), "1 2 1000 1001");
        house.cut(3, 1);
        Checks.due("the last one went", Houses.frames(house), "1 2 1000");
        Checks.noIndex(house, "cut from where a frame was", () -> house.cut(3, 1));
    }

    private static void cutCount() {
        CaptionHouse house = Houses.film(5);
        Checks.due("cut(2, 1)", house.cut(2, 1), 4);
        Checks.due("one went", Houses.frames(house), "0 1 3 4");
        Checks.due("cut(1, 3)", house.cut(1, 3), 1);
        Checks.due("all behind it went", Houses.frames(house), "0");
    }

    private static void cutReturns() {
        CaptionHouse house = Houses.longest();
        Checks.due("all but one", house.cut(1, 4799), 1);
        Checks.due("the last one", house.cut(0, 1), 0);
        CaptionHouse full = Houses.longest();
        Checks.due("one", full.cut(4799, 1), 4799);
        Checks.due("all", full.cut(0, 4799), 0);
    }

    private static void cutTooMany() {
        CaptionHouse house = Houses.film(5);
        Bounds.refused("cut from 2", Bounds.INDEX, house, (of, count) -> of.cut(2, count), 4, 5, Integer.MAX_VALUE);
        Bounds.refused("cut from 0", Bounds.INDEX, house, (of, count) -> of.cut(0, count), 6, Integer.MAX_VALUE);
        Bounds.refused("cut from 4", Bounds.INDEX, house, (of, count) -> of.cut(4, count), 2, Integer.MAX_VALUE);
        Checks.due("cut(2, 3)", house.cut(2, 3), 2);
    }

    private static void cutTooFew() {
        CaptionHouse house = Houses.film(5);
        Bounds.refused("cut from 0", Bounds.ARGUMENT, house, (of, count) -> of.cut(0, count), 0, -1, Integer.MIN_VALUE);
        Bounds.refused("cut from 4", Bounds.ARGUMENT, house, (of, count) -> of.cut(4, count), 0, -1, Integer.MIN_VALUE);
        Bounds.refused("cut from 5", Bounds.INDEX, house, (of, count) -> of.cut(5, count), 0, -1, Integer.MIN_VALUE);
    }

    // ---- move

    private static void moveFrom() {
        Bounds.range("move from", Bounds.INDEX, () -> Houses.film(3, 2), 0, 4, (house, from) -> house.move(from, 1, 2));
        Bounds.range("move from", Bounds.INDEX, () -> Houses.film(1), 0, 0, (house, from) -> house.move(from, 1, 0));
        CaptionHouse house = Houses.film(4);
        house.move(0, 1, 3);
        Checks.due("the first one", Houses.frames(house), "1 2 3 0");
        house.move(3, 1, 0);
        Checks.due("the last one", Houses.frames(house), "0 1 2 3");
    }

    private static void moveCount() {
        CaptionHouse house = Houses.film(4);
        house.move(1, 1, 2);
        Checks.due("one", Houses.frames(house), "0 2 1 3");
        house.move(1, 3, 0);
        Checks.due("all but one", Houses.frames(house), "2 1 3 0");
        Checks.due("all", house.move(0, 4, 0) + " " + Houses.frames(house), "0 2 1 3 0");
    }

    private static void moveTo() {
        Bounds.range("move to", Bounds.INDEX, () -> Houses.film(6), 0, 4, (house, to) -> house.move(1, 2, to));
        Bounds.range("move all to", Bounds.INDEX, () -> Houses.film(6), 0, 0, (house, to) -> house.move(0, 6, to));
        Bounds.range("move one to", Bounds.INDEX, Houses::longest, 0, 4799, (house, to) -> house.move(7, 1, to));
        String[] dues = {"1 2 0 3 4 5", "0 1 2 3 4 5", "0 3 1 2 4 5", "0 3 4 1 2 5", "0 3 4 5 1 2"};
        for (int to = 0; to < 5; to++) {
            CaptionHouse house = Houses.film(6);
            house.move(1, 2, to);
            Checks.due("move(1, 2, " + to + ")", Houses.frames(house), dues[to]);
        }
    }

    private static void moveReturns() {
        CaptionHouse house = Houses.film(8);
        Checks.due("no caption", house.move(0, 1, 7), 0);
        house.move(7, 1, 0);
        house.add(0, 2);
        Checks.due("other frames at the same places", house.move(0, 1, 1) + " " + Houses.time(house, 0), "0 0+2");
        Checks.due("another start", house.move(2, 1, 0) + " " + Houses.time(house, 0), "1 1+2");
        Checks.due("another length", house.move(2, 1, 3) + " " + Houses.time(house, 0), "1 1+1");
        Checks.due("none of both", house.move(4, 2, 6) + " " + Houses.time(house, 0), "0 1+1");
        Checks.due("an earlier run", house.move(3, 1, 0) + " " + Houses.time(house, 0), "1 0+1");
        house.cut(0, 1);
        house.cut(1, 1);
        Checks.due("out before and behind", house.move(0, 1, 5) + " " + Houses.time(house, 0), "0 -1+0");
        CaptionHouse both = Houses.film(8);
        both.add(2, 4);
        Checks.due("both at once", both.move(4, 1, 0) + " " + Houses.time(both, 0), "1 3+3");
        CaptionHouse full = Houses.film(20);
        for (int caption = 0; caption < 16; caption++) {
            full.add(caption, 1);
        }
        Checks.due("16 of 16", full.move(16, 1, 0), 16);
        Checks.due("none of 16 between the first frame and itself", full.move(0, 17, 0), 0);
        Checks.due("2 of 16", full.move(1, 1, 2), 2);
        Checks.due("15 of 16", full.move(0, 1, 15), 15);
    }

    private static void moveTooMany() {
        CaptionHouse house = Houses.film(5);
        Bounds.refused("move from 2", Bounds.INDEX, house, (of, count) -> of.move(2, count, 0), 4, 5, Integer.MAX_VALUE);
        Bounds.refused("move from 0", Bounds.INDEX, house, (of, count) -> of.move(0, count, 0), 6, Integer.MAX_VALUE);
        Bounds.refused("move from 4", Bounds.INDEX, house, (of, count) -> of.move(4, count, 0), 2, Integer.MAX_VALUE);
        Checks.due("move(2, 3, 0)", house.move(2, 3, 0) + " " + Houses.frames(house), "0 2 3 4 0 1");
    }

    private static void moveTooFew() {
        CaptionHouse house = Houses.film(5);
        for (int to : new int[] {Integer.MIN_VALUE, -1, 0, 4, 5, 6, Integer.MAX_VALUE}) {
            Bounds.refused("move from 0", Bounds.ARGUMENT, house, (of, count) -> of.move(0, count, to), 0, -1, Integer.MIN_VALUE);
            Bounds.refused("move from 4", Bounds.ARGUMENT, house, (of, count) -> of.move(4, count, to), 0, -1, Integer.MIN_VALUE);
            Bounds.refused("move from 5", Bounds.INDEX, house, (of, count) -> of.move(5, count, to), 0, -1, Integer.MIN_VALUE);
        }
    }

    // ---- putBack

    /** Two shots with 4 frames; in the film are the first and the last one of each. */
    private static CaptionHouse gaps() {
        CaptionHouse house = Houses.film(4, 4);
        house.cut(5, 2);
        house.cut(1, 2);
        return house;
    }

    private static void putBackShot() {
        Bounds.range("putBack of the shot", Bounds.INDEX, FilmBoundaries::gaps, 0, 1, (house, shot) -> house.putBack(shot, 1, 1, 0));
        CaptionHouse full = Houses.longest();
        full.cut(0, 4800);
        Bounds.refused("putBack of the shot", Bounds.INDEX, full, (house, shot) -> house.putBack(shot, 0, 1, 0), -1, 12);
        Checks.due("the shot 11", full.putBack(11, 0, 1, 0) + " " + Houses.frames(full), "1 11000");
    }

    private static void putBackFirst() {
        Bounds.range("putBack of the frame", Bounds.INDEX, FilmBoundaries::cutWhole, 0, 3, (house, first) -> house.putBack(1, first, 1, 0));
        CaptionHouse house = cutWhole();
        Checks.due("the last one", house.putBack(0, 3, 1, 0) + " " + Houses.frames(house), "1 3");
        Checks.due("the first one", house.putBack(0, 0, 1, 1) + " " + Houses.frames(house), "2 3 0");
    }

    private static CaptionHouse cutWhole() {
        CaptionHouse house = Houses.film(4, 4);
        house.cut(0, 8);
        return house;
    }

    private static void putBackCount() {
        CaptionHouse house = cutWhole();
        Checks.due("one", house.putBack(0, 1, 1, 0) + " " + Houses.frames(house), "1 1");
        Checks.due("two, up to the last one", house.putBack(0, 2, 2, 1) + " " + Houses.frames(house), "3 1 2 3");
        Checks.due("a whole shot", house.putBack(1, 0, 4, 1) + " " + Houses.frames(house), "7 1 1000 1001 1002 1003 2 3");
    }

    private static void putBackAt() {
        Bounds.range("putBack at", Bounds.INDEX, FilmBoundaries::gaps, 0, 4, (house, at) -> house.putBack(0, 1, 2, at));
        Bounds.range("putBack into an empty film at", Bounds.INDEX, FilmBoundaries::cutWhole, 0, 0, (house, at) -> house.putBack(0, 1, 2, at));
        CaptionHouse full = Houses.longest();
        full.cut(0, 1);
        Bounds.refused("putBack at", Bounds.INDEX, full, (house, at) -> house.putBack(0, 0, 1, at), -1, 4800);
        Checks.due("at the end of all", full.putBack(0, 0, 1, 4799) + " " + full.frameAt(4799), "4800 0");
        String[] dues = {"1 2 0 3 1000 1003", "0 1 2 3 1000 1003", "0 3 1 2 1000 1003", "0 3 1000 1 2 1003", "0 3 1000 1003 1 2"};
        for (int at = 0; at < 5; at++) {
            CaptionHouse house = gaps();
            house.putBack(0, 1, 2, at);
            Checks.due("putBack(0, 1, 2, " + at + ")", Houses.frames(house), dues[at]);
        }
    }

    private static void putBackReturns() {
        CaptionHouse house = cutWhole();
        Checks.due("of an empty film", house.putBack(1, 3, 1, 0), 1);
        Checks.due("all but one", house.putBack(1, 0, 3, 0) + " " + house.putBack(0, 0, 3, 0), "4 7");
        Checks.due("all", house.putBack(0, 3, 1, 3), 8);
    }

    private static void putBackNothing() {
        for (int count : new int[] {Integer.MIN_VALUE, -1, 0, 1, 5, Integer.MAX_VALUE}) {
            CaptionHouse house = gaps();
            Bounds.refused("putBack of the shot", Bounds.INDEX, house, (of, shot) -> of.putBack(shot, 1, count, 0), Integer.MIN_VALUE, -1, 2, 12, Integer.MAX_VALUE);
            Bounds.refused("putBack of the frame", Bounds.INDEX, house, (of, first) -> of.putBack(1, first, count, 0), Integer.MIN_VALUE, -1, 4, 400, Integer.MAX_VALUE);
        }
        CaptionHouse empty = new CaptionHouse();
        Checks.noIndex(empty, "putBack without a shot", () -> empty.putBack(0, 0, 1, 0));
    }

    private static void putBackTooMany() {
        CaptionHouse house = cutWhole();
        Bounds.refused("putBack from 0", Bounds.INDEX, house, (of, count) -> of.putBack(0, 0, count, 0), 5, Integer.MAX_VALUE);
        Bounds.refused("putBack from 2", Bounds.INDEX, house, (of, count) -> of.putBack(0, 2, count, 0), 3, 4, Integer.MAX_VALUE);
        Bounds.refused("putBack from 3", Bounds.INDEX, house, (of, count) -> of.putBack(0, 3, count, 0), 2, Integer.MAX_VALUE);
        Checks.due("putBack(0, 2, 2, 0)", house.putBack(0, 2, 2, 0), 2);
        CaptionHouse full = Houses.film(400, 400);
        full.cut(0, 800);
        Checks.noIndex(full, "putBack(0, 0, 401, 0)", () -> full.putBack(0, 0, 401, 0));
        Checks.due("putBack(0, 0, 400, 0)", full.putBack(0, 0, 400, 0), 400);
    }

    private static void putBackTooFew() {
        CaptionHouse house = gaps();
        for (int at : new int[] {Integer.MIN_VALUE, -1, 0, 4, 5, Integer.MAX_VALUE}) {
            Bounds.refused("putBack from 1", Bounds.ARGUMENT, house, (of, count) -> of.putBack(0, 1, count, at), 0, -1, Integer.MIN_VALUE);
            Bounds.refused("putBack of one in the film", Bounds.ARGUMENT, house, (of, count) -> of.putBack(1, 3, count, at), 0, -1, Integer.MIN_VALUE);
        }
    }

    private static void putBackOnceMore() {
        CaptionHouse house = gaps();
        Checks.noState(house, "the first of two is in the film", () -> house.putBack(0, 0, 2, 0));
        Checks.noState(house, "the last of two is in the film", () -> house.putBack(0, 2, 2, 4));
        Checks.noState(house, "one alone is in the film", () -> house.putBack(1, 3, 1, 0));
        Checks.noState(house, "both ends are in the film", () -> house.putBack(1, 0, 4, 0));
        Checks.due("those between", house.putBack(0, 1, 2, 0) + " " + Houses.frames(house), "6 1 2 0 3 1000 1003");
        CaptionHouse middle = Houses.film(3);
        middle.cut(2, 1);
        middle.cut(0, 1);
        Checks.noState(middle, "the one between is in the film", () -> middle.putBack(0, 0, 3, 0));
        Checks.due("one on each side", middle.putBack(0, 0, 1, 1) + " " + middle.putBack(0, 2, 1, 0), "2 3");
    }

    // ---- questions

    private static void frameCounts() {
        Checks.due("a new house", new CaptionHouse().frames(), 0);
        Checks.due("one frame", Houses.film(1).frames(), 1);
        CaptionHouse house = Houses.longest();
        Checks.due("all shots", house.frames(), 4800);
        house.move(0, 400, 4400);
        Checks.due("moved", house.frames(), 4800);
        house.cut(0, 4799);
        Checks.due("one left", house.frames(), 1);
        house.cut(0, 1);
        Checks.due("none left", house.frames(), 0);
    }

    private static void frameNames() {
        CaptionHouse house = Houses.longest();
        int[][] dues = {{0, 0}, {399, 399}, {400, 1000}, {799, 1399}, {4400, 11000}, {4799, 11399}};
        for (int[] due : dues) {
            Checks.due("frameAt(" + due[0] + ")", house.frameAt(due[0]), due[1]);
        }
    }

    private static void noPlaces() {
        CaptionHouse house = Houses.film(2);
        house.cut(0, 2);
        Bounds.refused("frameAt of a film that was cut", Bounds.INDEX, house, (of, place) -> of.frameAt(place), -1, 0, 1, 2);
        house.putBack(0, 1, 1, 0);
        Bounds.range("frameAt of one that came back", Bounds.INDEX, () -> house, 0, 0, (of, place) -> of.frameAt(place));
        Checks.due("frameAt(0)", house.frameAt(0), 1);
    }

    private static void placesOfFrames() {
        CaptionHouse house = Houses.longest();
        Checks.due("the first and the last place", house.placeOf(0, 0) + " " + house.placeOf(11, 399), "0 4799");
        house.cut(0, 1);
        Checks.due("the first one in the bin", house.placeOf(0, 0) + " " + house.placeOf(0, 1) + " " + house.placeOf(11, 399), "-1 0 4798");
        house.cut(4798, 1);
        Checks.due("the last one in the bin", house.placeOf(11, 398) + " " + house.placeOf(11, 399), "4797 -1");
        house.putBack(11, 399, 1, 0);
        Checks.due("at the first place", house.placeOf(11, 399) + " " + house.placeOf(0, 1) + " " + house.placeOf(11, 398), "0 1 4798");
        house.move(0, 1, 4798);
        Checks.due("at the last place", house.placeOf(11, 399) + " " + house.placeOf(0, 1) + " " + house.placeOf(11, 398), "4798 0 4797");
    }

    private static void noFrames() {
        CaptionHouse house = Houses.longest();
        Bounds.range("placeOf of the shot", Bounds.INDEX, () -> house, 0, 11, (of, shot) -> of.placeOf(shot, 399));
        Bounds.range("placeOf of the frame", Bounds.INDEX, () -> house, 0, 399, (of, frame) -> of.placeOf(11, frame));
        CaptionHouse cut = cutWhole();
        Bounds.range("placeOf of the shot in the bin", Bounds.INDEX, () -> cut, 0, 1, (of, shot) -> of.placeOf(shot, 3));
        Bounds.range("placeOf of the frame in the bin", Bounds.INDEX, () -> cut, 0, 3, (of, frame) -> of.placeOf(1, frame));
    }

    private static void noBoundaries() {
        CaptionHouse house = Houses.film(2);
        Bounds.range("isBoundary", Bounds.INDEX, () -> house, 0, 1, (of, place) -> of.isBoundary(place));
        house.cut(0, 2);
        Bounds.refused("isBoundary of a film that was cut", Bounds.INDEX, house, (of, place) -> of.isBoundary(place), -1, 0, 1);
    }
}

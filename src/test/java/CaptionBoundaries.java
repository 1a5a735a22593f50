/** The sentences about captions: promises 10 to 17, and the terms that they need. */
final class CaptionBoundaries {
    private static final int[] NO_COUNTS = {Integer.MIN_VALUE, -1, 0, 251, Integer.MAX_VALUE};

    private CaptionBoundaries() {
    }

    static void run() {
        terms();
        adds();
        lays();
        looks();
        questions();
        orders();
    }

    private static void terms() {
        Sentences.holds("Terms", "Captions are numbered from 0, at most 16.", CaptionBoundaries::captionNumbers);
        Sentences.holds("Terms", "A caption lies on frames: those that are in the film at the places on which it is laid, when it is laid.", CaptionBoundaries::framesWhenLaid);
        Sentences.holds("Terms", "From then on, however the film is cut, its time is the longest run of places, one behind the other, at which there are frames on which it lies,", CaptionBoundaries::longestRun);
        Sentences.holds("Terms", "of several such runs the earliest one;", CaptionBoundaries::earliestRun);
        Sentences.holds("Terms", "if none of its frames is in the film, it is out, and has no time.", CaptionBoundaries::out);
        Sentences.holds("Terms", "Its start is the first place of the run; its length is how many places it has; its end is start and length, added.", CaptionBoundaries::ends);
        Sentences.holds("Terms", "A caption has a look: SPEECH, as at first, TWO, SONG or SIGN.", CaptionBoundaries::lookNumbers);
    }

    private static void adds() {
        Sentences.plain("Promise 10", "Adds a caption.");
        Sentences.holds("Promise 10", "`from`: the place of the first frame on which it lies", CaptionBoundaries::addFrom);
        Sentences.holds("Promise 10", "`count`: 1 to 250", CaptionBoundaries::addCount);
        Sentences.holds("Promise 10", "Returns its number.", CaptionBoundaries::captionNumbers);
        Sentences.holds("Promise 10", "Throws `IndexOutOfBoundsException` if from is no place of the film,", CaptionBoundaries::addNowhere);
        Sentences.holds("Promise 10", "or count is in its range, and there are not so many frames from there on", CaptionBoundaries::addTooMany);
        Sentences.holds("Promise 10", "Throws `IllegalArgumentException` if count is out of range", CaptionBoundaries::addOutOfRange);
        Sentences.holds("Promise 10", "Throws `IllegalStateException` if there are 16", CaptionBoundaries::addOneMore);
    }

    private static void lays() {
        Sentences.plain("Promise 11", "Lays a caption anew.");
        Sentences.holds("Promise 11", "`caption`: a caption", CaptionBoundaries::layCaption);
        Sentences.holds("Promise 11", "`from`: the place of the first frame on which it lies", CaptionBoundaries::layFrom);
        Sentences.holds("Promise 11", "`count`: 1 to 250", CaptionBoundaries::layCount);
        Sentences.holds("Promise 11", "Returns its start before; NONE if it was out.", CaptionBoundaries::layReturns);
        Sentences.holds("Promise 11", "Throws `IndexOutOfBoundsException` if there is no such caption, from is no place of the film,", CaptionBoundaries::layNowhere);
        Sentences.holds("Promise 11", "or count is in its range, and there are not so many frames from there on", CaptionBoundaries::layTooMany);
        Sentences.holds("Promise 11", "Throws `IllegalArgumentException` if count is out of range", CaptionBoundaries::layOutOfRange);
    }

    private static void looks() {
        Sentences.plain("Promise 12", "Sets the look of a caption.");
        Sentences.holds("Promise 12", "`caption`: a caption", CaptionBoundaries::lookCaption);
        Sentences.holds("Promise 12", "`look`: SPEECH, TWO, SONG or SIGN", CaptionBoundaries::lookNumbers);
        Sentences.holds("Promise 12", "Returns the look before; if it is the same, nothing changes.", CaptionBoundaries::sameLook);
        Sentences.holds("Promise 12", "Throws `IndexOutOfBoundsException` if there is no such caption", CaptionBoundaries::lookCaption);
        Sentences.holds("Promise 12", "Throws `IllegalArgumentException` if look is out of range", CaptionBoundaries::wrongLooks);
    }

    private static void questions() {
        Sentences.holds("Promise 13", "Returns how many captions there are.", CaptionBoundaries::counts);
        Sentences.plain("Promise 14", "Returns the start of a caption.");
        Sentences.plain("Promise 15", "Returns the length of a caption.");
        Sentences.holds("Promise 14", "`caption`: a caption", CaptionBoundaries::startCaption);
        Sentences.holds("Promise 14", "Returns the start; NONE if it is out.", CaptionBoundaries::out);
        Sentences.holds("Promise 14", "Throws `IndexOutOfBoundsException` if there is no such caption", CaptionBoundaries::startCaption);
        Sentences.holds("Promise 15", "`caption`: a caption", CaptionBoundaries::lengthCaption);
        Sentences.holds("Promise 15", "Returns the length; 0 if it is out.", CaptionBoundaries::lengths);
        Sentences.holds("Promise 15", "Throws `IndexOutOfBoundsException` if there is no such caption", CaptionBoundaries::lengthCaption);
        Sentences.plain("Promise 16", "Returns the start of a caption, found by looking at all frames of the film, one by one.");
        Sentences.holds("Promise 16", "`caption`: a caption", CaptionBoundaries::searchCaption);
        Sentences.holds("Promise 16", "Returns the start; NONE if it is out.", CaptionBoundaries::searched);
        Sentences.holds("Promise 16", "Throws `IndexOutOfBoundsException` if there is no such caption", CaptionBoundaries::searchCaption);
    }

    private static void orders() {
        Sentences.holds("Promise 17", "Returns the caption that stands at a place in the order of starts, those with the same start by rising numbers.", CaptionBoundaries::order);
        Sentences.holds("Promise 17", "`place`: 0 for the first one", CaptionBoundaries::firstInOrder);
        Sentences.holds("Promise 17", "Returns the caption; NONE if not so many have a time.", CaptionBoundaries::lastInOrder);
        Sentences.holds("Promise 17", "Throws `IllegalArgumentException` if place is below 0", CaptionBoundaries::belowOrder);
    }

    private static CaptionHouse film() {
        return Houses.film(300);
    }

    private static CaptionHouse two() {
        return Houses.captions(2);
    }

    private static CaptionHouse sixteen() {
        return Houses.captions(16);
    }

    // ---- terms

    private static void captionNumbers() {
        CaptionHouse house = film();
        Checks.noIndex(house, "startOf(0) without a caption", () -> house.startOf(0));
        for (int caption = 0; caption < 16; caption++) {
            Checks.due("add", house.add(0, 1), caption);
        }
        Checks.noState(house, "the 17th", () -> house.add(0, 1));
    }

    private static void framesWhenLaid() {
        CaptionHouse house = Houses.film(20);
        house.cut(5, 1);
        house.add(4, 2);
        Checks.due("on the frames 4 and 6", Houses.time(house, 0), "4+2");
        house.putBack(0, 5, 1, 5);
        Checks.due("5 was in the bin", Houses.time(house, 0), "4+1");
        house.cut(4, 1);
        Checks.due("6 is left", Houses.time(house, 0), "5+1");
        house.addShot(1);
        house.move(18, 2, 5);
        Checks.due("pushed on", Houses.time(house, 0), "7+1");
        house.lay(0, 5, 1);
        house.putBack(0, 4, 1, 6);
        Checks.due("the frames laid on before do not count", Houses.time(house, 0), "5+1");
    }

    /** A caption on the frames 0 to 9, of which the last ones stand behind 10 others. */
    private static CaptionHouse runs(int ahead) {
        CaptionHouse house = Houses.film(20);
        house.add(0, 10);
        house.move(10, 10, ahead);
        return house;
    }

    private static void longestRun() {
        othersInside();
        Checks.due("10 and 0", Houses.time(runs(10), 0), "0+10");
        Checks.due("6 and 4", Houses.time(runs(6), 0), "0+6");
        Checks.due("4 and 6", Houses.time(runs(4), 0), "14+6");
        Checks.due("0 and 10", Houses.time(runs(0), 0), "10+10");
        CaptionHouse gap = Houses.film(20);
        gap.add(0, 10);
        gap.move(19, 1, 4);
        Checks.due("a gap of one place", Houses.time(gap, 0), "5+6");
        gap.cut(4, 1);
        Checks.due("no gap", Houses.time(gap, 0), "0+10");
        gap.cut(3, 2);
        Checks.due("frames behind a cut are one run", Houses.time(gap, 0), "0+8");
    }

    /** Others that begin or end in the midst of a run, or have gaps there, do not end it. */
    private static void othersInside() {
        CaptionHouse house = Houses.film(40);
        house.add(5, 20);
        house.add(10, 5);
        house.add(0, 15);
        house.add(15, 20);
        house.move(0, 1, 39);
        Checks.due("a long one", Houses.time(house, 0), "4+20");
        Checks.due("one in it", Houses.time(house, 1), "9+5");
        Checks.due("one that ends in it", Houses.time(house, 2), "0+14");
        Checks.due("one that begins in it", Houses.time(house, 3), "14+20");
        house.cut(20, 1);
        Checks.due("a shorter one", Houses.time(house, 0) + " " + Houses.time(house, 3), "4+19 14+19");
    }

    private static void earliestRun() {
        CaptionHouse house = runs(5);
        Checks.due("5 and 5", Houses.time(house, 0), "0+5");
        house.cut(4, 1);
        Checks.due("4 and 5", Houses.time(house, 0), "14+5");
        house.cut(18, 1);
        Checks.due("4 and 4", Houses.time(house, 0), "0+4");
        house.move(1, 1, 8);
        Checks.due("3 and 4", Houses.time(house, 0), "14+4");
        CaptionHouse ones = Houses.film(6);
        ones.add(1, 3);
        ones.move(5, 1, 2);
        ones.move(5, 1, 4);
        Checks.due("1, 1 and 1", Houses.time(ones, 0), "1+1");
        ones.cut(1, 1);
        Checks.due("1 and 1", Houses.time(ones, 0), "2+1");
        ones.cut(2, 1);
        Checks.due("1", Houses.time(ones, 0), "3+1");
    }

    private static void out() {
        CaptionHouse house = Houses.film(10);
        house.add(4, 2);
        house.cut(4, 1);
        Checks.due("one frame is left", Houses.time(house, 0), "4+1");
        house.cut(4, 1);
        Checks.due("none is left", Houses.time(house, 0), "-1+0");
        house.addShot(3);
        Checks.due("other frames do not help", Houses.time(house, 0), "-1+0");
        house.putBack(0, 5, 1, 0);
        Checks.due("one is back at the place 0", Houses.time(house, 0), "0+1");
        house.cut(0, 1);
        house.putBack(0, 4, 1, 11);
        Checks.due("one is back at the last place", Houses.time(house, 0), "11+1");
        house.cut(0, 12);
        Checks.due("the whole film is cut", Houses.time(house, 0), "-1+0");
    }

    private static void ends() {
        CaptionHouse house = Houses.film(10);
        house.add(0, 1);
        house.add(9, 1);
        house.add(0, 10);
        Checks.due("the first place", Houses.time(house, 0), "0+1");
        Checks.due("the last place", Houses.time(house, 1), "9+1");
        Checks.due("all places", Houses.time(house, 2), "0+10");
        house.type(2, 0, 'a');
        Checks.due("the end is behind the last place", State.page(house, 1, 0), "{0}{10}a\n");
    }

    private static void lookNumbers() {
        Bounds.range("setLook", Bounds.ARGUMENT, CaptionBoundaries::two, 0, 3, (house, look) -> house.setLook(1, look));
        CaptionHouse house = two();
        int[] looks = {CaptionHouse.SPEECH, CaptionHouse.TWO, CaptionHouse.SONG, CaptionHouse.SIGN, CaptionHouse.SPEECH};
        for (int i = 0; i < 4; i++) {
            Checks.due("the look before", house.setLook(0, looks[i + 1]), looks[i]);
        }
        Checks.due("the other one, as at first", house.setLook(1, CaptionHouse.TWO), CaptionHouse.SPEECH);
    }

    // ---- add

    private static void addFrom() {
        Bounds.range("add from", Bounds.INDEX, CaptionBoundaries::film, 0, 299, (house, from) -> house.add(from, 1));
        CaptionHouse house = film();
        house.add(0, 3);
        house.add(297, 3);
        Checks.due("times", Houses.time(house, 0) + " " + Houses.time(house, 1), "0+3 297+3");
    }

    private static void addCount() {
        Bounds.range("add", Bounds.ARGUMENT, CaptionBoundaries::film, 1, 250, (house, count) -> house.add(10, count));
        CaptionHouse house = film();
        house.add(10, 1);
        house.add(10, 250);
        house.add(50, 250);
        Checks.due("times", Houses.time(house, 0) + " " + Houses.time(house, 1) + " " + Houses.time(house, 2), "10+1 10+250 50+250");
    }

    private static void addNowhere() {
        for (int count : new int[] {Integer.MIN_VALUE, -1, 0, 1, 250, 251, Integer.MAX_VALUE}) {
            Bounds.refused("add", Bounds.INDEX, film(), (house, from) -> house.add(from, count), Integer.MIN_VALUE, -1, 300, 301, Integer.MAX_VALUE);
        }
        CaptionHouse cut = Houses.film(2);
        cut.cut(1, 1);
        Bounds.range("add in a film of one frame", Bounds.INDEX, () -> cut, 0, 0, (house, from) -> house.add(from, 1));
        CaptionHouse none = Houses.film(2);
        none.cut(0, 2);
        Bounds.refused("add in a film that was cut", Bounds.INDEX, none, (house, from) -> house.add(from, 1), -1, 0, 1);
    }

    private static void addTooMany() {
        Bounds.refused("add from 51", Bounds.INDEX, film(), (house, count) -> house.add(51, count), 250);
        Bounds.refused("add from 290", Bounds.INDEX, film(), (house, count) -> house.add(290, count), 11, 12, 250);
        Bounds.refused("add from 299", Bounds.INDEX, film(), (house, count) -> house.add(299, count), 2, 3, 250);
        CaptionHouse house = film();
        Checks.due("as many as there are", house.add(51, 249) + " " + house.add(290, 10) + " " + house.add(299, 1), "0 1 2");
        CaptionHouse small = Houses.film(1);
        Checks.noIndex(small, "add(0, 2) in a film of one frame", () -> small.add(0, 2));
    }

    private static void addOutOfRange() {
        for (int from : new int[] {0, 49, 50, 51, 299}) {
            Bounds.refused("add from " + from, Bounds.ARGUMENT, film(), (house, count) -> house.add(from, count), NO_COUNTS);
        }
        Bounds.refused("add in a film of one frame", Bounds.ARGUMENT, Houses.film(1), (house, count) -> house.add(0, count), NO_COUNTS);
    }

    private static void addOneMore() {
        CaptionHouse house = Houses.captions(15);
        Checks.due("the 16th", house.add(0, 1), 15);
        Bounds.refused("the 17th", Bounds.STATE, house, (of, from) -> of.add(from, 1), 0, 199);
        house.cut(0, 199);
        Checks.noState(house, "the 17th, where the others are out", () -> house.add(0, 1));
    }

    // ---- lay

    private static void layCaption() {
        Bounds.range("lay of", Bounds.INDEX, CaptionBoundaries::sixteen, 0, 15, (house, caption) -> house.lay(caption, 0, 1));
        Bounds.range("lay of", Bounds.INDEX, () -> Houses.captions(1), 0, 0, (house, caption) -> house.lay(caption, 0, 1));
        CaptionHouse house = sixteen();
        house.lay(15, 3, 2);
        Checks.due("the last one", Houses.time(house, 14) + " " + Houses.time(house, 15), "140+5 3+2");
    }

    private static void layFrom() {
        Bounds.range("lay from", Bounds.INDEX, CaptionBoundaries::two, 0, 199, (house, from) -> house.lay(1, from, 1));
        CaptionHouse house = two();
        Checks.due("lay(1, 0, 1)", house.lay(1, 0, 1) + " " + Houses.time(house, 1), "10 0+1");
        Checks.due("lay(1, 199, 1)", house.lay(1, 199, 1) + " " + Houses.time(house, 1), "0 199+1");
    }

    private static CaptionHouse laid() {
        CaptionHouse house = film();
        house.add(20, 5);
        return house;
    }

    private static void layCount() {
        Bounds.range("lay", Bounds.ARGUMENT, CaptionBoundaries::laid, 1, 250, (house, count) -> house.lay(0, 10, count));
        CaptionHouse house = laid();
        Checks.due("lay(0, 50, 250)", house.lay(0, 50, 250) + " " + Houses.time(house, 0), "20 50+250");
        Checks.due("lay(0, 50, 1)", house.lay(0, 50, 1) + " " + Houses.time(house, 0), "50 50+1");
    }

    private static void layReturns() {
        CaptionHouse house = film();
        house.add(0, 2);
        Checks.due("the place 0", house.lay(0, 299, 1), 0);
        Checks.due("the last place", house.lay(0, 5, 1), 299);
        house.cut(5, 1);
        Checks.due("it was out", house.lay(0, 7, 1), CaptionHouse.NONE);
        Checks.due("it was not", house.lay(0, 7, 1), 7);
    }

    private static void layNowhere() {
        for (int count : new int[] {Integer.MIN_VALUE, -1, 0, 1, 250, 251, Integer.MAX_VALUE}) {
            CaptionHouse house = laid();
            Bounds.refused("lay from", Bounds.INDEX, house, (of, from) -> of.lay(0, from, count), Integer.MIN_VALUE, -1, 300, 301, Integer.MAX_VALUE);
            Bounds.refused("lay of", Bounds.INDEX, house, (of, caption) -> of.lay(caption, 0, count), Integer.MIN_VALUE, -1, 1, 15, 16, Integer.MAX_VALUE);
        }
    }

    private static void layTooMany() {
        Bounds.refused("lay from 51", Bounds.INDEX, laid(), (house, count) -> house.lay(0, 51, count), 250);
        Bounds.refused("lay from 290", Bounds.INDEX, laid(), (house, count) -> house.lay(0, 290, count), 11, 12, 250);
        Bounds.refused("lay from 299", Bounds.INDEX, laid(), (house, count) -> house.lay(0, 299, count), 2, 3, 250);
        CaptionHouse house = laid();
        Checks.due("as many as there are", house.lay(0, 51, 249) + " " + house.lay(0, 290, 10) + " " + house.lay(0, 299, 1), "20 51 290");
    }

    private static void layOutOfRange() {
        for (int from : new int[] {0, 49, 50, 51, 299}) {
            Bounds.refused("lay from " + from, Bounds.ARGUMENT, laid(), (house, count) -> house.lay(0, from, count), NO_COUNTS);
        }
    }

    // ---- setLook

    private static void lookCaption() {
        for (int look : new int[] {Integer.MIN_VALUE, -1, 0, 3, 4, Integer.MAX_VALUE}) {
            Bounds.refused("setLook of", Bounds.INDEX, two(), (house, caption) -> house.setLook(caption, look), Integer.MIN_VALUE, -1, 2, 15, 16, Integer.MAX_VALUE);
        }
        Bounds.range("setLook of", Bounds.INDEX, CaptionBoundaries::sixteen, 0, 15, (house, caption) -> house.setLook(caption, 3));
    }

    private static void sameLook() {
        CaptionHouse house = two();
        for (int look = 0; look < 4; look++) {
            int before = look == 0 ? 0 : look - 1;
            Checks.due("the look before", house.setLook(0, look), before);
            house.letGo(0, 2, CaptionHouse.EMPTY, 7);
            String state = State.of(house);
            Checks.due("the same look", house.setLook(0, look), look);
            Checks.due("the state behind it", State.of(house), state);
        }
        house.setLook(0, 0);
        Checks.due("another look ends the name", house.nameOf(0, 2, CaptionHouse.EMPTY), 0);
    }

    private static void wrongLooks() {
        CaptionHouse house = two();
        house.setLook(1, CaptionHouse.SIGN);
        Bounds.refused("setLook", Bounds.ARGUMENT, house, (of, look) -> of.setLook(1, look), Integer.MIN_VALUE, -1, 4, Integer.MAX_VALUE);
        Checks.due("the look before", house.setLook(1, CaptionHouse.SPEECH), CaptionHouse.SIGN);
    }

    // ---- questions

    private static void counts() {
        CaptionHouse house = film();
        Checks.due("a new house", new CaptionHouse().captions() + " " + house.captions(), "0 0");
        for (int caption = 1; caption <= 16; caption++) {
            house.add(0, 1);
            Checks.due("captions()", house.captions(), caption);
        }
        Checks.noState(house, "the 17th", () -> house.add(0, 1));
        house.cut(0, 300);
        Checks.due("those that are out count", house.captions(), 16);
    }

    private static void startCaption() {
        Bounds.range("startOf", Bounds.INDEX, CaptionBoundaries::sixteen, 0, 15, (house, caption) -> house.startOf(caption));
        Bounds.range("startOf of one", Bounds.INDEX, () -> Houses.captions(1), 0, 0, (house, caption) -> house.startOf(caption));
        Checks.due("the first and the last one", sixteen().startOf(0) + " " + sixteen().startOf(15), "0 150");
    }

    private static void lengthCaption() {
        Bounds.range("lengthOf", Bounds.INDEX, CaptionBoundaries::sixteen, 0, 15, (house, caption) -> house.lengthOf(caption));
        Bounds.range("lengthOf of one", Bounds.INDEX, () -> Houses.captions(1), 0, 0, (house, caption) -> house.lengthOf(caption));
    }

    private static void lengths() {
        CaptionHouse house = film();
        house.add(0, 250);
        Checks.due("the longest", house.lengthOf(0), 250);
        house.cut(1, 249);
        Checks.due("the shortest", house.lengthOf(0), 1);
        house.cut(0, 1);
        Checks.due("out", house.lengthOf(0), 0);
    }

    private static void searchCaption() {
        Bounds.range("startByFrames", Bounds.INDEX, CaptionBoundaries::sixteen, 0, 15, (house, caption) -> house.startByFrames(caption));
        Bounds.range("startByFrames of one", Bounds.INDEX, () -> Houses.captions(1), 0, 0, (house, caption) -> house.startByFrames(caption));
    }

    private static void searched() {
        CaptionHouse house = Houses.longest();
        house.add(4799, 1);
        house.add(0, 1);
        Checks.due("the last place and the first one", house.startByFrames(0) + " " + house.startByFrames(1), "4799 0");
        house.cut(0, 1);
        Checks.due("one less, and out", house.startByFrames(0) + " " + house.startByFrames(1), "4798 -1");
        house.cut(0, 4799);
        Checks.due("no film", house.startByFrames(0) + " " + house.startByFrames(1), "-1 -1");
        CaptionHouse runs = runs(5);
        Checks.due("of 5 and 5 the earliest", runs.startByFrames(0), 0);
        runs.cut(0, 1);
        Checks.due("of 4 and 5 the longest", runs.startByFrames(0), 14);
    }

    // ---- inOrder

    private static void order() {
        CaptionHouse house = Houses.film(30);
        for (int from : new int[] {9, 8, 9, 10, 8}) {
            house.add(from, 3);
        }
        Checks.due("by starts and numbers", listed(house), "1 4 0 2 3 -1");
        house.lay(3, 9, 1);
        Checks.due("the same start, a greater number", listed(house), "1 4 0 2 3 -1");
        house.lay(3, 8, 1);
        Checks.due("an earlier start", listed(house), "1 3 4 0 2 -1");
        house.lay(1, 10, 1);
        Checks.due("a later start", listed(house), "3 4 0 2 1 -1");
    }

    private static String listed(CaptionHouse house) {
        StringBuilder order = new StringBuilder();
        for (int place = 0; place <= house.captions(); place++) {
            order.append(place > 0 ? " " : "").append(house.inOrder(place));
        }
        return order.toString();
    }

    private static void firstInOrder() {
        CaptionHouse house = Houses.film(30);
        Checks.due("no caption", house.inOrder(0), CaptionHouse.NONE);
        house.add(5, 1);
        Checks.due("one caption", house.inOrder(0) + " " + house.inOrder(1), "0 -1");
        house.add(4, 1);
        Checks.due("two captions", house.inOrder(0) + " " + house.inOrder(1) + " " + house.inOrder(2), "1 0 -1");
    }

    private static void lastInOrder() {
        CaptionHouse house = Houses.film(30);
        for (int caption = 0; caption < 16; caption++) {
            house.add(15 - caption, 1);
        }
        Checks.due("16 of them", house.inOrder(0) + " " + house.inOrder(15) + " " + house.inOrder(16), "15 0 -1");
        house.cut(0, 1);
        Checks.due("15 of them", house.inOrder(0) + " " + house.inOrder(14) + " " + house.inOrder(15), "14 0 -1");
        house.cut(0, 15);
        Checks.due("none of them", house.inOrder(0) + " " + house.inOrder(Integer.MAX_VALUE), "-1 -1");
    }

    private static void belowOrder() {
        Bounds.refused("inOrder", Bounds.ARGUMENT, new CaptionHouse(), (house, place) -> house.inOrder(place), -1, Integer.MIN_VALUE);
        Bounds.refused("inOrder", Bounds.ARGUMENT, two(), (house, place) -> house.inOrder(place), -1, Integer.MIN_VALUE);
        Checks.due("inOrder(0)", two().inOrder(0), 0);
    }
}

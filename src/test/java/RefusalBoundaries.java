import java.util.ArrayList;
import java.util.List;

/** Which exception is thrown, also when several apply, and that a call that throws changes nothing. */
final class RefusalBoundaries {
    private interface Probe {
        Object ask(CaptionHouse house);
    }

    private RefusalBoundaries() {
    }

    static void run() {
        Sentences.holds("Terms", "An IndexOutOfBoundsException is thrown if there is no such shot, frame, place, caption, tongue, sign, row or rule,", RefusalBoundaries::noIndexes);
        Sentences.holds("Terms", "an IllegalArgumentException if another argument is out of its range,", RefusalBoundaries::noArguments);
        Sentences.holds("Terms", "an IllegalStateException as told.", RefusalBoundaries::noStates);
        Sentences.holds("Terms", "If several exceptions of a throws clause apply, the one that is listed first is thrown.", RefusalBoundaries::listedFirst);
        Sentences.holds("Terms", "A call that throws an exception changes nothing.", RefusalBoundaries::changesNothing);
        for (String calls : new String[] {"`addShot`, `cut`, `move`, `putBack`, `frames`, `frameAt`, `placeOf`, `isBoundary` the interface says: ---- the film.",
            "`add`, `lay`, `setLook`, `captions`, `startOf`, `lengthOf`, `startByFrames`, `inOrder` the interface says: ---- captions.",
            "`type`, `erase`, `signs`, `signAt`, `width`, `rows`, `row`, `setLimits` the interface says: ---- texts.",
            "`confirm`, `fill`, `isStale`, `memory` the interface says: ---- tongues.",
            "`broken`, `letGo`, `nameOf`, `faults` the interface says: ---- checks.",
            "`written`, `writtenChar` the interface says: ---- formats."}) {
            Sentences.plain("Terms", "Ahead of the calls " + calls);
        }
    }

    /** 12 shots and 16 captions, of which the first one has a full text, and a gap in the film. */
    private static CaptionHouse full() {
        CaptionHouse house = Houses.film(20, 20, 20, 20, 20, 20, 20, 20, 20, 20, 20, 20);
        for (int caption = 0; caption < 16; caption++) {
            house.add(12 * caption, 12);
        }
        Houses.type(house, 0, 0, "a".repeat(60));
        house.setLook(0, CaptionHouse.SONG);
        Houses.type(house, 0, 1, "one\ntwo three");
        house.confirm(0, 1);
        Houses.type(house, 1, 0, "b");
        Houses.type(house, 1, 2, "x");
        house.confirm(1, 2);
        house.type(1, 0, 'c');
        house.type(2, 0, 'b');
        house.setLimits(20, 10);
        house.letGo(2, 1, CaptionHouse.EMPTY, 42);
        house.cut(30, 5);
        return house;
    }

    private static List<Probe> withIndexes() {
        List<Probe> calls = new ArrayList<>();
        calls.add(house -> house.cut(-1, 1));
        calls.add(house -> house.cut(235, 1));
        calls.add(house -> house.cut(234, 2));
        calls.add(house -> house.move(235, 1, 0));
        calls.add(house -> house.move(234, 2, 0));
        calls.add(house -> house.move(0, 2, 234));
        calls.add(house -> house.move(0, 2, -1));
        calls.add(house -> house.putBack(12, 0, 1, 0));
        calls.add(house -> house.putBack(1, 20, 1, 0));
        calls.add(house -> house.putBack(1, 14, 7, 0));
        calls.add(house -> house.putBack(1, 10, 5, 236));
        calls.add(house -> house.frameAt(235));
        calls.add(house -> house.placeOf(12, 0));
        calls.add(house -> house.placeOf(11, 20));
        calls.add(house -> house.isBoundary(235));
        calls.add(house -> house.add(235, 1));
        calls.add(house -> house.add(234, 2));
        calls.add(house -> house.lay(16, 0, 1));
        calls.add(house -> house.lay(0, 235, 1));
        calls.add(house -> house.lay(0, 234, 2));
        calls.add(house -> house.setLook(16, 0));
        calls.add(house -> house.startOf(16));
        calls.add(house -> house.lengthOf(16));
        calls.add(house -> house.startByFrames(16));
        calls.addAll(withTextIndexes());
        return calls;
    }

    private static List<Probe> withTextIndexes() {
        List<Probe> calls = new ArrayList<>();
        calls.add(house -> house.type(16, 0, 'a'));
        calls.add(house -> house.type(0, 3, 'a'));
        calls.add(house -> house.erase(16, 0));
        calls.add(house -> house.erase(0, 3));
        calls.add(house -> house.signs(16, 0));
        calls.add(house -> house.signs(0, 3));
        calls.add(house -> house.signAt(0, 0, 60));
        calls.add(house -> house.signAt(0, 0, -1));
        calls.add(house -> house.width(0, 3));
        calls.add(house -> house.rows(0, 3));
        calls.add(house -> house.row(0, 0, 1));
        calls.add(house -> house.row(0, 0, -1));
        calls.add(house -> house.confirm(16, 1));
        calls.add(house -> house.confirm(0, 0));
        calls.add(house -> house.confirm(0, 3));
        calls.add(house -> house.fill(0));
        calls.add(house -> house.fill(3));
        calls.add(house -> house.isStale(0, 3));
        calls.add(house -> house.memory(0));
        calls.add(house -> house.memory(3));
        calls.add(house -> house.broken(0, 3));
        calls.add(house -> house.letGo(0, 3, 0, 1));
        calls.add(house -> house.letGo(2, 1, 8, 1));
        calls.add(house -> house.letGo(2, 1, -1, 1));
        calls.add(house -> house.nameOf(2, 1, 8));
        calls.add(house -> house.faults(3));
        calls.add(house -> house.written(0, 3));
        calls.add(house -> house.writtenChar(0, 3, 0));
        calls.add(house -> house.writtenChar(0, 0, house.written(0, 0)));
        calls.add(house -> house.writtenChar(1, 0, -1));
        return calls;
    }

    private static List<Probe> withArguments() {
        List<Probe> calls = new ArrayList<>();
        calls.add(house -> house.addShot(0));
        calls.add(house -> house.addShot(401));
        calls.add(house -> house.cut(234, 0));
        calls.add(house -> house.move(234, 0, 0));
        calls.add(house -> house.putBack(1, 10, 0, 0));
        calls.add(house -> house.add(0, 0));
        calls.add(house -> house.add(0, 251));
        calls.add(house -> house.lay(0, 0, 0));
        calls.add(house -> house.lay(0, 0, 251));
        calls.add(house -> house.setLook(0, -1));
        calls.add(house -> house.setLook(0, 4));
        calls.add(house -> house.inOrder(-1));
        calls.add(house -> house.type(1, 0, 31));
        calls.add(house -> house.type(1, 0, 131072));
        calls.add(house -> house.setLimits(4, 15));
        calls.add(house -> house.setLimits(61, 15));
        calls.add(house -> house.setLimits(32, 4));
        calls.add(house -> house.setLimits(32, 51));
        calls.add(house -> house.letGo(2, 1, 0, 0));
        calls.add(house -> house.letGo(2, 1, 0, 100));
        calls.add(house -> house.written(2, 0));
        calls.add(house -> house.writtenChar(2, 0, 0));
        return calls;
    }

    private static List<Probe> withStates() {
        List<Probe> calls = new ArrayList<>();
        calls.add(house -> house.addShot(1));
        calls.add(house -> house.putBack(1, 9, 2, 0));
        calls.add(house -> house.putBack(1, 10, 6, 0));
        calls.add(house -> house.add(0, 1));
        calls.add(house -> house.type(0, 0, 'a'));
        calls.add(house -> house.erase(0, 2));
        calls.add(house -> house.confirm(0, 2));
        calls.add(house -> house.confirm(15, 1));
        calls.add(house -> house.letGo(2, 1, CaptionHouse.OUT, 1));
        return calls;
    }

    private static void allThrow(List<Probe> calls, String exception) {
        CaptionHouse house = full();
        String before = State.of(house);
        for (int i = 0; i < calls.size(); i++) {
            Probe call = calls.get(i);
            Checks.due("call " + i, Checks.outcome(() -> call.ask(house)), exception);
            Checks.due("the state behind call " + i, State.of(house), before);
        }
    }

    private static void noIndexes() {
        allThrow(withIndexes(), Bounds.INDEX);
    }

    private static void noArguments() {
        allThrow(withArguments(), Bounds.ARGUMENT);
    }

    private static void noStates() {
        allThrow(withStates(), Bounds.STATE);
    }

    private static void listedFirst() {
        List<Probe> arguments = new ArrayList<>();
        arguments.add(house -> house.addShot(0));
        arguments.add(house -> house.addShot(401));
        arguments.add(house -> house.putBack(1, 9, 0, 0));
        arguments.add(house -> house.add(0, 0));
        arguments.add(house -> house.add(0, 251));
        arguments.add(house -> house.type(0, 0, 31));
        arguments.add(house -> house.letGo(2, 1, CaptionHouse.OUT, 100));
        arguments.add(house -> house.written(2, 3));
        arguments.add(house -> house.writtenChar(-1, 3, -1));
        arguments.add(house -> house.writtenChar(2, 0, 9999));
        allThrow(arguments, Bounds.ARGUMENT);
        List<Probe> indexes = new ArrayList<>();
        indexes.add(house -> house.cut(235, 0));
        indexes.add(house -> house.move(-1, 0, 0));
        indexes.add(house -> house.putBack(12, 0, 0, 0));
        indexes.add(house -> house.putBack(1, 20, 0, 0));
        indexes.add(house -> house.putBack(1, 9, 12, 0));
        indexes.add(house -> house.putBack(1, 9, 2, 236));
        indexes.add(house -> house.add(235, 0));
        indexes.add(house -> house.add(235, 251));
        indexes.add(house -> house.add(234, 2));
        indexes.add(house -> house.lay(16, 0, 0));
        indexes.add(house -> house.lay(0, 235, 251));
        indexes.add(house -> house.setLook(16, 4));
        indexes.add(house -> house.type(16, 0, 31));
        indexes.add(house -> house.type(0, 3, 31));
        indexes.add(house -> house.erase(16, 2));
        indexes.add(house -> house.confirm(15, 0));
        indexes.add(house -> house.confirm(16, 2));
        indexes.add(house -> house.letGo(16, 1, CaptionHouse.OUT, 100));
        indexes.add(house -> house.letGo(2, 3, CaptionHouse.OUT, 0));
        indexes.add(house -> house.letGo(2, 1, 8, 100));
        allThrow(indexes, Bounds.INDEX);
    }

    /** What can only be told by calls that change something: limits, looks, memories, marks on frames in the bin. */
    private static List<Probe> changes() {
        List<Probe> calls = new ArrayList<>();
        calls.add(house -> house.fill(1));
        calls.add(house -> house.fill(2));
        calls.add(house -> house.setLimits(32, 15));
        for (int caption = 0; caption < 16; caption++) {
            int of = caption;
            calls.add(house -> house.setLook(of, CaptionHouse.SIGN));
        }
        calls.add(house -> house.putBack(1, 10, 5, 0));
        calls.add(house -> house.confirm(0, 1));
        calls.add(house -> house.letGo(2, 1, CaptionHouse.CLOSE, 1));
        calls.add(house -> house.erase(0, 0));
        calls.add(house -> house.move(0, 100, 100));
        calls.add(house -> house.lay(2, 0, 12));
        calls.add(house -> house.cut(0, 100));
        return calls;
    }

    private static void changesNothing() {
        CaptionHouse asked = full();
        CaptionHouse untouched = full();
        List<Probe> refused = new ArrayList<>(withIndexes());
        refused.addAll(withArguments());
        refused.addAll(withStates());
        for (Probe call : refused) {
            Checks.due("a refused call", Checks.outcome(() -> call.ask(asked)).startsWith("throws."), true);
        }
        Checks.due("the state behind all of them", State.of(asked), State.of(untouched));
        for (Probe call : changes()) {
            Checks.due("an answer behind all of them", Checks.outcome(() -> call.ask(asked)), Checks.outcome(() -> call.ask(untouched)));
            Checks.due("the state behind it", State.of(asked), State.of(untouched));
        }
    }
}

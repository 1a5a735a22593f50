import java.util.Arrays;

/** Captions that lie on frames of shots; ../shared/DOC.md says what each call promises. */
public final class CaptionHouse {
    public static final int NONE = -1;
    public static final int SPEECH = 0, TWO = 1, SONG = 2, SIGN = 3;
    public static final int EMPTY = 0, WIDE = 1, FAST = 2, HANG = 3, CLOSE = 4, STALE = 5, OUT = 6, VOICES = 7;

    private static final int SHOTS = 12;
    private static final int SHOT_FRAMES = 400;
    private static final int FILM_FRAMES = 4800;
    // One more than a shot has frames: so no first frame of a shot has the key behind another shot's last one.
    private static final int KEY_STEP = 401;
    private static final int KEYS = 4812;

    private static final int CAPTIONS = 16;
    private static final int CAPTION_FRAMES = 250;
    private static final int TONGUES = 3;
    private static final int RULES = 8;
    private static final int NAMES = 384;

    private static final int TEXT_SIGNS = 60;
    private static final int CAPTION_TEXTS = 48;
    private static final int MEMORY_TEXTS = 8;
    // Behind the texts of the captions stand those of the memories: eight that are asked for, and eight answers, in each.
    private static final int FIRST_MEMORY_TEXT = 48;
    private static final int SECOND_MEMORY_TEXT = 64;
    private static final int TEXTS = 80;
    private static final int ALL_SIGNS = 4800;
    // A text of breaks alone has one row more than it has signs.
    private static final int ROWS = 61;
    // A caption takes less than 150 chars in any format.
    private static final int PAGE_CHARS = 2400;

    private static final int BREAK = 10;
    private static final int SPACE = 32;
    private static final int DASH = 45;
    private static final int NOTE = 9834;
    private static final int NO_STOP_COST = 5;

    private static final int SECOND = 25;
    private static final int HANG_PLACES = 12;
    private static final int CLOSE_PLACES = 2;

    private final Film film = new Film();
    private final Times times = new Times();
    private final Texts texts = new Texts();
    private final Memory firstMemory = new Memory(FIRST_MEMORY_TEXT);
    private final Memory secondMemory = new Memory(SECOND_MEMORY_TEXT);
    private final Layout layout = new Layout();
    private final Page page = new Page();
    private final int[] looks = new int[CAPTIONS];
    private final int[] names = new int[NAMES];
    /** By text: whether the text in the tongue 0 was changed behind the last time at which this one was settled. */
    private final boolean[] behind = new boolean[CAPTION_TEXTS];
    private final int[] order = new int[CAPTIONS];
    private int captionCount;
    private int rowWidth;
    private int speed;

    public CaptionHouse() {
        captionCount = 0;
        rowWidth = 32;
        speed = 15;
    }

    // ---- the film

    public int addShot(int frames) throws IllegalArgumentException, IllegalStateException {
        if (frames < 1 || frames > SHOT_FRAMES) {
            throw new IllegalArgumentException("frames is out of range");
        }
        if (film.shots() >= SHOTS) {
            throw new IllegalStateException("there are 12 shots");
        }
        return film.appendShot(frames);
    }

    public int cut(int from, int count) throws IndexOutOfBoundsException, IllegalArgumentException {
        needPlace(from);
        if (count > film.size() - from) {
            throw new IndexOutOfBoundsException("not so many frames");
        }
        needSome(count);
        film.takeOut(from, count);
        times.find(film);
        return film.size();
    }

    public int move(int from, int count, int to) throws IndexOutOfBoundsException, IllegalArgumentException {
        needPlace(from);
        if (count >= 1 && (count > film.size() - from || to < 0 || to > film.size() - count)) {
            throw new IndexOutOfBoundsException("not so many frames, or no such place");
        }
        needSome(count);
        film.shift(from, count, to);
        return times.find(film);
    }

    public int putBack(int shot, int first, int count, int at) throws IndexOutOfBoundsException, IllegalArgumentException, IllegalStateException {
        needFrame(shot, first);
        if (count >= 1 && (count > film.shotFrames(shot) - first || at < 0 || at > film.size())) {
            throw new IndexOutOfBoundsException("not so many frames, or no such place");
        }
        needSome(count);
        if (film.showsAny(shot, first, count)) {
            throw new IllegalStateException("a frame is in the film");
        }
        film.putIn(shot, first, count, at);
        times.find(film);
        return film.size();
    }

    public int frames() {
        return film.size();
    }

    public int frameAt(int place) throws IndexOutOfBoundsException {
        needPlace(place);
        int key = film.keyAt(place);
        return 1000 * (key / KEY_STEP) + key % KEY_STEP;
    }

    public int placeOf(int shot, int frame) throws IndexOutOfBoundsException {
        needFrame(shot, frame);
        return film.placeOfFrame(shot, frame);
    }

    public boolean isBoundary(int place) throws IndexOutOfBoundsException {
        needPlace(place);
        return film.isSeam(place);
    }

    // ---- captions

    public int add(int from, int count) throws IndexOutOfBoundsException, IllegalArgumentException, IllegalStateException {
        needRun(from, count);
        if (captionCount >= CAPTIONS) {
            throw new IllegalStateException("there are 16 captions");
        }
        int caption = captionCount;
        captionCount++;
        film.mark(caption, from, count);
        times.set(caption, from, count);
        return caption;
    }

    public int lay(int caption, int from, int count) throws IndexOutOfBoundsException, IllegalArgumentException {
        needCaption(caption);
        needRun(from, count);
        int before = times.start(caption);
        film.unmark(caption);
        film.mark(caption, from, count);
        times.set(caption, from, count);
        forgetAllNames(caption);
        return before;
    }

    public int setLook(int caption, int look) throws IndexOutOfBoundsException, IllegalArgumentException {
        needCaption(caption);
        if (look < SPEECH || look > SIGN) {
            throw new IllegalArgumentException("look is out of range");
        }
        int before = item(looks, caption);
        if (look != before) {
            store(looks, caption, look);
            forgetAllNames(caption);
        }
        return before;
    }

    public int captions() {
        return captionCount;
    }

    public int startOf(int caption) throws IndexOutOfBoundsException {
        needCaption(caption);
        return times.start(caption);
    }

    public int lengthOf(int caption) throws IndexOutOfBoundsException {
        needCaption(caption);
        return times.length(caption);
    }

    public int startByFrames(int caption) throws IndexOutOfBoundsException {
        needCaption(caption);
        int start = NONE;
        int longest = 0;
        int run = 0;
        for (int place = 0; place < film.size(); place++) {
            run = isMarked(film.marksAt(place), caption) ? run + 1 : 0;
            if (run > longest) {
                longest = run;
                start = place + 1 - run;
            }
        }
        return start;
    }

    public int inOrder(int place) throws IllegalArgumentException {
        if (place < 0) {
            throw new IllegalArgumentException("place is below 0");
        }
        return place < orderCaptions() ? item(order, place) : NONE;
    }

    // ---- texts

    public int type(int caption, int tongue, int sign) throws IndexOutOfBoundsException, IllegalArgumentException, IllegalStateException {
        int text = needText(caption, tongue);
        if (!isSign(sign)) {
            throw new IllegalArgumentException("sign is no such code point");
        }
        if (texts.size(text) >= TEXT_SIGNS) {
            throw new IllegalStateException("the text has 60 signs");
        }
        texts.append(text, sign);
        noteChange(caption, tongue);
        return texts.size(text);
    }

    public int erase(int caption, int tongue) throws IndexOutOfBoundsException, IllegalStateException {
        int text = needText(caption, tongue);
        if (texts.size(text) == 0) {
            throw new IllegalStateException("the text is empty");
        }
        int sign = texts.removeLast(text);
        noteChange(caption, tongue);
        return sign;
    }

    public int signs(int caption, int tongue) throws IndexOutOfBoundsException {
        return texts.size(needText(caption, tongue));
    }

    public int signAt(int caption, int tongue, int index) throws IndexOutOfBoundsException {
        int text = needText(caption, tongue);
        if (index < 0 || index >= texts.size(text)) {
            throw new IndexOutOfBoundsException("no such sign");
        }
        return texts.sign(text, index);
    }

    public int width(int caption, int tongue) throws IndexOutOfBoundsException {
        return textWidth(needText(caption, tongue));
    }

    public int rows(int caption, int tongue) throws IndexOutOfBoundsException {
        layout.divide(texts, needText(caption, tongue), rowWidth);
        return layout.count();
    }

    public int row(int caption, int tongue, int row) throws IndexOutOfBoundsException {
        layout.divide(texts, needText(caption, tongue), rowWidth);
        if (row < 0 || row >= layout.count()) {
            throw new IndexOutOfBoundsException("no such row");
        }
        return 100 * layout.first(row) + layout.end(row);
    }

    public int setLimits(int width, int speed) throws IllegalArgumentException {
        if (width < 5 || width > 60 || speed < 5 || speed > 50) {
            throw new IllegalArgumentException("width or speed is out of range");
        }
        int before = rowWidth;
        rowWidth = width;
        this.speed = speed;
        return before;
    }

    // ---- tongues

    public int confirm(int caption, int tongue) throws IndexOutOfBoundsException, IllegalStateException {
        int text = needText(caption, tongue);
        needMadeTongue(tongue);
        int original = textOf(caption, 0);
        if (texts.size(text) == 0 || texts.size(original) == 0) {
            throw new IllegalStateException("a text is empty");
        }
        Memory kept = memoryOf(tongue);
        kept.keep(texts, original, text);
        setBehind(text, false);
        return kept.count();
    }

    public int fill(int tongue) throws IndexOutOfBoundsException {
        needMadeTongue(tongue);
        Memory kept = memoryOf(tongue);
        int filled = 0;
        for (int caption = 0; caption < captionCount; caption++) {
            int text = textOf(caption, tongue);
            if ((texts.size(text) == 0 || isBehind(text)) && kept.give(texts, textOf(caption, 0), text)) {
                setBehind(text, false);
                forgetNames(text);
                filled++;
            }
        }
        return filled;
    }

    public boolean isStale(int caption, int tongue) throws IndexOutOfBoundsException {
        return isOutdated(needText(caption, tongue));
    }

    public int memory(int tongue) throws IndexOutOfBoundsException {
        needMadeTongue(tongue);
        return memoryOf(tongue).count();
    }

    // ---- checks

    public int broken(int caption, int tongue) throws IndexOutOfBoundsException {
        needText(caption, tongue);
        return brokenRules(caption, tongue);
    }

    public int letGo(int caption, int tongue, int rule, int name) throws IndexOutOfBoundsException, IllegalArgumentException, IllegalStateException {
        int text = needText(caption, tongue);
        needRule(rule);
        if (name < 1 || name > 99) {
            throw new IllegalArgumentException("name is out of range");
        }
        if ((brokenRules(caption, tongue) & bit(rule)) == 0) {
            throw new IllegalStateException("the rule is not broken");
        }
        int before = item(names, text * RULES + rule);
        store(names, text * RULES + rule, name);
        return before;
    }

    public int nameOf(int caption, int tongue, int rule) throws IndexOutOfBoundsException {
        int text = needText(caption, tongue);
        needRule(rule);
        return item(names, text * RULES + rule);
    }

    public int faults(int tongue) throws IndexOutOfBoundsException {
        needTongue(tongue);
        int sum = 0;
        for (int caption = 0; caption < captionCount; caption++) {
            int open = brokenRules(caption, tongue) & ~namedRules(textOf(caption, tongue));
            sum += Integer.bitCount(open);
        }
        return sum;
    }

    // ---- formats

    public int written(int format, int tongue) throws IllegalArgumentException, IndexOutOfBoundsException {
        needFormat(format);
        needTongue(tongue);
        writeAll(format, tongue);
        return page.length();
    }

    public char writtenChar(int format, int tongue, int index) throws IllegalArgumentException, IndexOutOfBoundsException {
        needFormat(format);
        needTongue(tongue);
        writeAll(format, tongue);
        if (index < 0 || index >= page.length()) {
            throw new IndexOutOfBoundsException("no such char");
        }
        return page.at(index);
    }

    // ---- what calls need

    private void needPlace(int place) {
        if (place < 0 || place >= film.size()) {
            throw new IndexOutOfBoundsException("no such place");
        }
    }

    private void needFrame(int shot, int frame) {
        if (shot < 0 || shot >= film.shots() || frame < 0 || frame >= film.shotFrames(shot)) {
            throw new IndexOutOfBoundsException("no such shot or frame");
        }
    }

    private static void needSome(int count) {
        if (count < 1) {
            throw new IllegalArgumentException("count is below 1");
        }
    }

    private void needRun(int from, int count) {
        needPlace(from);
        if (count <= CAPTION_FRAMES && count > film.size() - from) {
            throw new IndexOutOfBoundsException("not so many frames");
        }
        if (count < 1 || count > CAPTION_FRAMES) {
            throw new IllegalArgumentException("count is out of range");
        }
    }

    private void needCaption(int caption) {
        if (caption < 0 || caption >= captionCount) {
            throw new IndexOutOfBoundsException("no such caption");
        }
    }

    private static void needTongue(int tongue) {
        if (tongue < 0 || tongue >= TONGUES) {
            throw new IndexOutOfBoundsException("no such tongue");
        }
    }

    private static void needMadeTongue(int tongue) {
        if (tongue < 1 || tongue >= TONGUES) {
            throw new IndexOutOfBoundsException("no tongue that is made from the first one");
        }
    }

    private int needText(int caption, int tongue) {
        needCaption(caption);
        needTongue(tongue);
        return textOf(caption, tongue);
    }

    private static void needRule(int rule) {
        if (rule < 0 || rule >= RULES) {
            throw new IndexOutOfBoundsException("no such rule");
        }
    }

    private static void needFormat(int format) {
        if (format < 0 || format > 1) {
            throw new IllegalArgumentException("format is out of range");
        }
    }

    // ---- arrays, which are never asked outside their bounds

    private static int item(int[] array, int index) {
        return index >= 0 && index < array.length ? array[index] : 0;
    }

    private static void store(int[] array, int index, int value) {
        if (index >= 0 && index < array.length) {
            array[index] = value;
        }
    }

    private static void copyItems(int[] source, int from, int[] target, int to, int count) {
        if (count > 0 && from >= 0 && from <= source.length - count && to >= 0 && to <= target.length - count) {
            System.arraycopy(source, from, target, to, count);
        }
    }

    private static int bit(int number) {
        return 1 << number;
    }

    private static boolean isMarked(int marks, int caption) {
        return (marks & bit(caption)) != 0;
    }

    // ---- the order of captions

    /** Puts the captions that have a time into the order of starts, and returns how many there are. */
    private int orderCaptions() {
        int count = 0;
        for (int caption = 0; caption < captionCount; caption++) {
            if (times.isIn(caption)) {
                insertCaption(caption, count);
                count++;
            }
        }
        return count;
    }

    private void insertCaption(int caption, int count) {
        int at = count;
        while (at > 0 && times.start(item(order, at - 1)) > times.start(caption)) {
            store(order, at, item(order, at - 1));
            at--;
        }
        store(order, at, caption);
    }

    // ---- signs and texts

    private static boolean isSign(int sign) {
        return sign == BREAK || sign >= SPACE && sign <= 131071 && (sign < 55296 || sign > 57343);
    }

    private static int signWidth(int sign) {
        if (sign == BREAK || sign >= 768 && sign <= 879) {
            return 0;
        }
        return sign >= 11904 && sign <= 55215 || sign >= 65536 ? 2 : 1;
    }

    private static boolean isStop(int sign) {
        return sign == 46 || sign == 44 || sign == 59 || sign == 58 || sign == 33 || sign == 63;
    }

    private static int textOf(int caption, int tongue) {
        return caption * TONGUES + tongue;
    }

    private int textWidth(int text) {
        int sum = 0;
        for (int i = 0; i < texts.size(text); i++) {
            sum += signWidth(texts.sign(text, i));
        }
        return sum;
    }

    private void noteChange(int caption, int tongue) {
        int text = textOf(caption, tongue);
        setBehind(text, false);
        forgetNames(text);
        if (tongue == 0) {
            setBehind(textOf(caption, 1), true);
            setBehind(textOf(caption, 2), true);
        }
    }

    private Memory memoryOf(int tongue) {
        return tongue == 1 ? firstMemory : secondMemory;
    }

    private boolean isBehind(int text) {
        return text >= 0 && text < behind.length && behind[text];
    }

    private void setBehind(int text, boolean value) {
        if (text >= 0 && text < behind.length) {
            behind[text] = value;
        }
    }

    private boolean isOutdated(int text) {
        return isBehind(text) && texts.size(text) > 0;
    }

    // ---- rules

    private int brokenRules(int caption, int tongue) {
        int text = textOf(caption, tongue);
        boolean isIn = times.isIn(caption);
        layout.divide(texts, text, rowWidth);
        int set = texts.size(text) == 0 ? bit(EMPTY) : 0;
        set |= layout.count() > 2 || layout.widest() > rowWidth ? bit(WIDE) : 0;
        set |= isIn && SECOND * textWidth(text) > speed * times.length(caption) ? bit(FAST) : 0;
        set |= isIn && hangs(caption) ? bit(HANG) : 0;
        set |= isIn && isClose(caption) ? bit(CLOSE) : 0;
        set |= isOutdated(text) ? bit(STALE) : 0;
        set |= isIn ? 0 : bit(OUT);
        set |= item(looks, caption) == TWO && lacksVoices(text) ? bit(VOICES) : 0;
        return set;
    }

    private boolean hangs(int caption) {
        int start = times.start(caption);
        int end = times.end(caption);
        for (int place = start + 1; place < end; place++) {
            if ((place - start < HANG_PLACES || end - place < HANG_PLACES) && film.isSeam(place)) {
                return true;
            }
        }
        return false;
    }

    private boolean isClose(int caption) {
        boolean isSignLook = item(looks, caption) == SIGN;
        for (int other = 0; other < captionCount; other++) {
            boolean isLike = (item(looks, other) == SIGN) == isSignLook;
            if (isLike && times.isIn(other) && followsClosely(other, caption)) {
                return true;
            }
        }
        return false;
    }

    private boolean followsClosely(int other, int caption) {
        int start = times.start(caption);
        int otherStart = times.start(other);
        if (otherStart == start) {
            return other > caption;
        }
        return otherStart > start && otherStart - times.end(caption) < CLOSE_PLACES;
    }

    /** Tells whether a text that is not empty has not just two parts that begin with a dash. */
    private boolean lacksVoices(int text) {
        int size = texts.size(text);
        int parts = 1;
        int dashes = texts.sign(text, 0) == DASH ? 1 : 0;
        for (int i = 0; i < size; i++) {
            if (texts.sign(text, i) == BREAK) {
                parts++;
                dashes += texts.sign(text, i + 1) == DASH ? 1 : 0;
            }
        }
        return size > 0 && (parts != 2 || dashes != 2);
    }

    private int namedRules(int text) {
        int set = 0;
        for (int rule = 0; rule < RULES; rule++) {
            set |= item(names, text * RULES + rule) != 0 ? bit(rule) : 0;
        }
        return set;
    }

    private void forgetNames(int text) {
        for (int rule = 0; rule < RULES; rule++) {
            store(names, text * RULES + rule, 0);
        }
    }

    private void forgetAllNames(int caption) {
        for (int tongue = 0; tongue < TONGUES; tongue++) {
            forgetNames(textOf(caption, tongue));
        }
    }

    // ---- writing

    private void writeAll(int format, int tongue) {
        int count = orderCaptions();
        int number = 0;
        page.clear();
        for (int i = 0; i < count; i++) {
            int caption = item(order, i);
            int text = textOf(caption, tongue);
            if (texts.size(text) > 0) {
                number++;
                layout.divide(texts, text, rowWidth);
                if (format == 0) {
                    writeNumbered(caption, text, number);
                } else {
                    writeBraced(caption, text);
                }
            }
        }
    }

    private void writeNumbered(int caption, int text, int number) {
        boolean isSong = item(looks, caption) == SONG;
        page.writeNumber(number);
        page.write(BREAK);
        writeTime(times.start(caption));
        page.write(SPACE);
        page.write('>');
        page.write(SPACE);
        writeTime(times.end(caption));
        page.write(BREAK);
        if (isSong) {
            page.write(NOTE);
            page.write(SPACE);
        }
        writeRows(text, BREAK);
        if (isSong) {
            page.write(SPACE);
            page.write(NOTE);
        }
        page.write(BREAK);
        page.write(BREAK);
    }

    private void writeBraced(int caption, int text) {
        int look = item(looks, caption);
        writeInBraces(times.start(caption));
        writeInBraces(times.end(caption));
        if (look == SONG) {
            page.write('/');
        }
        if (look == SIGN) {
            page.write('^');
        }
        writeRows(text, '|');
        page.write(BREAK);
    }

    private void writeInBraces(int number) {
        page.write('{');
        page.writeNumber(number);
        page.write('}');
    }

    private void writeTime(int place) {
        page.writeNumber(place / 1500);
        page.write(':');
        page.writeTwoDigits(place / SECOND % 60);
        page.write(':');
        page.writeTwoDigits(place % SECOND);
    }

    private void writeRows(int text, int between) {
        for (int row = 0; row < layout.count(); row++) {
            if (row > 0) {
                page.write(between);
            }
            for (int i = layout.first(row); i < layout.end(row); i++) {
                page.write(texts.sign(text, i));
            }
        }
    }

    /** The row of frames, each told by a key: its shot times KEY_STEP, and its number. */
    private static final class Film {
        private final int[] keys = new int[FILM_FRAMES];
        private final int[] lifted = new int[FILM_FRAMES];
        /** By key: the place of a frame; NONE if it is in the bin. */
        private final int[] places = new int[KEYS];
        /** By key: the set of the captions that lie on this frame, in the film or not. */
        private final int[] marks = new int[KEYS];
        private final int[] lengths = new int[SHOTS];
        private int shotCount;
        private int size;

        int shots() {
            return shotCount;
        }

        int shotFrames(int shot) {
            return item(lengths, shot);
        }

        int size() {
            return size;
        }

        int keyAt(int place) {
            return item(keys, place);
        }

        int placeOfFrame(int shot, int frame) {
            return item(places, shot * KEY_STEP + frame);
        }

        boolean isSeam(int place) {
            return place > 0 && keyAt(place) != keyAt(place - 1) + 1;
        }

        int appendShot(int count) {
            int shot = shotCount;
            shotCount++;
            store(lengths, shot, count);
            putIn(shot, 0, count, size);
            return shot;
        }

        void takeOut(int from, int count) {
            for (int i = 0; i < count; i++) {
                store(places, keyAt(from + i), NONE);
            }
            copyItems(keys, from + count, keys, from, size - from - count);
            size -= count;
            renumber(from);
        }

        void putIn(int shot, int first, int count, int at) {
            copyItems(keys, at, keys, at + count, size - at);
            for (int i = 0; i < count; i++) {
                store(keys, at + i, shot * KEY_STEP + first + i);
            }
            size += count;
            renumber(at);
        }

        void shift(int from, int count, int to) {
            copyItems(keys, from, lifted, 0, count);
            copyItems(keys, from + count, keys, from, size - from - count);
            copyItems(keys, to, keys, to + count, size - count - to);
            copyItems(lifted, 0, keys, to, count);
            renumber(Math.min(from, to));
        }

        boolean showsAny(int shot, int first, int count) {
            for (int i = 0; i < count; i++) {
                if (placeOfFrame(shot, first + i) != NONE) {
                    return true;
                }
            }
            return false;
        }

        /** The captions that lie on the frame at a place; none behind the last frame. */
        int marksAt(int place) {
            if (place < 0 || place >= size || place >= keys.length) {
                return 0;
            }
            int key = keys[place];
            return key >= 0 && key < marks.length ? marks[key] : 0;
        }

        void mark(int caption, int from, int count) {
            for (int i = 0; i < count; i++) {
                int key = keyAt(from + i);
                store(marks, key, item(marks, key) | bit(caption));
            }
        }

        void unmark(int caption) {
            for (int key = 0; key < marks.length; key++) {
                marks[key] &= ~bit(caption);
            }
        }

        private void renumber(int from) {
            for (int place = from; place >= 0 && place < size && place < keys.length; place++) {
                int key = keys[place];
                if (key >= 0 && key < places.length) {
                    places[key] = place;
                }
            }
        }
    }

    /** Starts and lengths of all captions, found anew when the film has changed. */
    private static final class Times {
        private final int[] starts = new int[CAPTIONS];
        private final int[] lengths = new int[CAPTIONS];
        private final int[] runStarts = new int[CAPTIONS];
        private final int[] longestStarts = new int[CAPTIONS];
        private final int[] longest = new int[CAPTIONS];

        Times() {
            Arrays.fill(starts, NONE);
        }

        int start(int caption) {
            return item(starts, caption);
        }

        int length(int caption) {
            return item(lengths, caption);
        }

        int end(int caption) {
            return start(caption) + length(caption);
        }

        boolean isIn(int caption) {
            return length(caption) > 0;
        }

        void set(int caption, int start, int length) {
            store(starts, caption, start);
            store(lengths, caption, length);
        }

        /** Goes over the film once, for all captions, and returns how many have another time than before. */
        int find(Film film) {
            Arrays.fill(longestStarts, NONE);
            Arrays.fill(longest, 0);
            int before = 0;
            for (int place = 0; place <= film.size(); place++) {
                int here = film.marksAt(place);
                if (here != before) {
                    turn(before, here, place);
                }
                before = here;
            }
            return takeLongest();
        }

        private void turn(int before, int here, int place) {
            for (int caption = 0; caption < CAPTIONS; caption++) {
                boolean was = isMarked(before, caption);
                boolean is = isMarked(here, caption);
                if (is && !was) {
                    store(runStarts, caption, place);
                }
                if (was && !is) {
                    endRun(caption, place);
                }
            }
        }

        private void endRun(int caption, int place) {
            int start = item(runStarts, caption);
            if (place - start > item(longest, caption)) {
                store(longestStarts, caption, start);
                store(longest, caption, place - start);
            }
        }

        private int takeLongest() {
            int changed = 0;
            for (int caption = 0; caption < CAPTIONS; caption++) {
                int start = item(longestStarts, caption);
                int length = item(longest, caption);
                if (start != start(caption) || length != length(caption)) {
                    set(caption, start, length);
                    changed++;
                }
            }
            return changed;
        }
    }

    /** All texts by number: those of the captions first, and behind them those that the memories keep. */
    private static final class Texts {
        private final int[] signs = new int[ALL_SIGNS];
        private final int[] sizes = new int[TEXTS];

        int size(int text) {
            return item(sizes, text);
        }

        /** A sign of a text; 0 where the text has none. */
        int sign(int text, int index) {
            return index >= 0 && index < item(sizes, text) ? item(signs, text * TEXT_SIGNS + index) : 0;
        }

        void append(int text, int sign) {
            int size = size(text);
            store(signs, text * TEXT_SIGNS + size, sign);
            store(sizes, text, size + 1);
        }

        int removeLast(int text) {
            int last = size(text) - 1;
            int sign = sign(text, last);
            store(sizes, text, last);
            return sign;
        }

        void copy(int source, int target) {
            copyItems(signs, source * TEXT_SIGNS, signs, target * TEXT_SIGNS, size(source));
            store(sizes, target, size(source));
        }

        boolean isSame(int one, int other) {
            if (size(one) != size(other)) {
                return false;
            }
            for (int i = 0; i < size(one); i++) {
                if (sign(one, i) != sign(other, i)) {
                    return false;
                }
            }
            return true;
        }
    }

    /** What a tongue remembers: a text of the first tongue, and the one that was confirmed for it. */
    private static final class Memory {
        private final int originals;
        private final int answers;
        private final int[] usedAt = new int[MEMORY_TEXTS];
        private int count;
        private int clock;

        Memory(int firstText) {
            originals = firstText;
            answers = firstText + MEMORY_TEXTS;
        }

        int count() {
            return count;
        }

        void keep(Texts texts, int original, int answer) {
            int slot = find(texts, original);
            if (slot == NONE) {
                slot = freeSlot();
                texts.copy(original, originals + slot);
            }
            texts.copy(answer, answers + slot);
            use(slot);
        }

        /** Copies what is kept for the original, if there is any, and tells whether there is. */
        boolean give(Texts texts, int original, int target) {
            int slot = find(texts, original);
            if (slot == NONE) {
                return false;
            }
            texts.copy(answers + slot, target);
            use(slot);
            return true;
        }

        private int find(Texts texts, int original) {
            for (int slot = 0; slot < count; slot++) {
                if (texts.isSame(originals + slot, original)) {
                    return slot;
                }
            }
            return NONE;
        }

        private int freeSlot() {
            if (count < MEMORY_TEXTS) {
                count++;
                return count - 1;
            }
            int oldest = 0;
            for (int slot = 1; slot < count; slot++) {
                if (item(usedAt, slot) < item(usedAt, oldest)) {
                    oldest = slot;
                }
            }
            return oldest;
        }

        private void use(int slot) {
            clock++;
            store(usedAt, slot, clock);
        }
    }

    /** The rows of the text that was divided last. */
    private static final class Layout {
        private final int[] firsts = new int[ROWS];
        private final int[] ends = new int[ROWS];
        /** By index: the width of all signs ahead of it. */
        private final int[] widths = new int[ROWS];
        private int count;
        private int widest;

        int count() {
            return count;
        }

        int widest() {
            return widest;
        }

        int first(int row) {
            return item(firsts, row);
        }

        int end(int row) {
            return item(ends, row);
        }

        void divide(Texts texts, int text, int rowWidth) {
            count = 0;
            widest = 0;
            int size = texts.size(text);
            if (size == 0) {
                return;
            }
            measure(texts, text);
            int first = 0;
            for (int i = 0; i <= size; i++) {
                if (i == size || texts.sign(text, i) == BREAK) {
                    dividePart(texts, text, first, i, rowWidth);
                    first = i + 1;
                }
            }
        }

        private void measure(Texts texts, int text) {
            int sum = 0;
            for (int i = 0; i < texts.size(text); i++) {
                store(widths, i, sum);
                sum += signWidth(texts.sign(text, i));
            }
            store(widths, texts.size(text), sum);
        }

        private int widthBetween(int first, int end) {
            return item(widths, end) - item(widths, first);
        }

        private void dividePart(Texts texts, int text, int first, int end, int rowWidth) {
            int space = widthBetween(first, end) > rowWidth ? bestSpace(texts, text, first, end, rowWidth) : NONE;
            if (space == NONE) {
                keepRow(first, end);
            } else {
                keepRow(first, space);
                keepRow(space + 1, end);
            }
        }

        /** The space of the least cost by which both rows have a sign and fit; NONE if there is none. */
        private int bestSpace(Texts texts, int text, int first, int end, int rowWidth) {
            int best = NONE;
            int least = 0;
            for (int i = first + 1; i < end - 1; i++) {
                if (texts.sign(text, i) == SPACE) {
                    int left = widthBetween(first, i);
                    int right = widthBetween(i + 1, end);
                    int cost = Math.abs(left - right) + (isStop(texts.sign(text, i - 1)) ? 0 : NO_STOP_COST);
                    if (left <= rowWidth && right <= rowWidth && (best == NONE || cost < least)) {
                        best = i;
                        least = cost;
                    }
                }
            }
            return best;
        }

        private void keepRow(int first, int end) {
            store(firsts, count, first);
            store(ends, count, end);
            count++;
            widest = Math.max(widest, widthBetween(first, end));
        }
    }

    /** The chars that are written out, in an array that each writing uses again. */
    private static final class Page {
        private final char[] chars = new char[PAGE_CHARS];
        private int length;

        int length() {
            return length;
        }

        char at(int index) {
            return index >= 0 && index < chars.length ? chars[index] : 0;
        }

        void clear() {
            length = 0;
        }

        void write(int sign) {
            if (sign < 65536) {
                writeUnit(sign);
            } else {
                writeUnit(55296 + ((sign - 65536) >> 10));
                writeUnit(56320 + (sign & 1023));
            }
        }

        void writeNumber(int number) {
            for (int step = 1000; step >= 1; step /= 10) {
                if (number >= step || step == 1) {
                    writeUnit('0' + number / step % 10);
                }
            }
        }

        void writeTwoDigits(int number) {
            writeUnit('0' + number / 10);
            writeUnit('0' + number % 10);
        }

        private void writeUnit(int unit) {
            if (length >= 0 && length < chars.length) {
                chars[length] = (char) unit;
                length++;
            }
        }
    }
}

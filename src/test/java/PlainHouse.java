import java.util.ArrayList;
import java.util.Arrays;
import java.util.HashSet;
import java.util.LinkedHashMap;
import java.util.List;
import java.util.Map;
import java.util.Set;

/** The document once more, from its words, with the Java library and everything found anew at each call: the random runs are measured by it. */
final class PlainHouse {
    private static final class Caption {
        int look = 0;
        Set<Integer> frames = new HashSet<>();
        List<List<Integer>> texts = List.of(new ArrayList<>(), new ArrayList<>(), new ArrayList<>());
        List<Map<Integer, Integer>> names = List.of(new LinkedHashMap<>(), new LinkedHashMap<>(), new LinkedHashMap<>());
        int[] settledAt = new int[3];
        int changedAt = 0;
    }

    private final List<Integer> shots = new ArrayList<>();
    private List<Integer> film = new ArrayList<>();
    private final List<Caption> captions = new ArrayList<>();
    /** By tongue: what is kept, that which was used last at the end. */
    private final List<LinkedHashMap<List<Integer>, List<Integer>>> memories = List.of(new LinkedHashMap<>(), new LinkedHashMap<>(), new LinkedHashMap<>());
    private int rowWidth = 32;
    private int speed = 15;
    private int now = 0;

    private static void index(boolean fine) {
        if (!fine) {
            throw new IndexOutOfBoundsException();
        }
    }

    private static void argument(boolean fine) {
        if (!fine) {
            throw new IllegalArgumentException();
        }
    }

    private static void state(boolean fine) {
        if (!fine) {
            throw new IllegalStateException();
        }
    }

    private static boolean within(int value, int least, int most) {
        return least <= value && value <= most;
    }

    private boolean isPlace(int place) {
        return within(place, 0, film.size() - 1);
    }

    private Caption caption(int caption) {
        index(within(caption, 0, captions.size() - 1));
        return captions.get(caption);
    }

    private List<Integer> text(int caption, int tongue) {
        Caption of = caption(caption);
        index(within(tongue, 0, 2));
        return of.texts.get(tongue);
    }

    /** Start and length; null for one that is out. */
    private int[] time(Caption caption) {
        int[] best = null;
        for (int start = 0; start < film.size(); start++) {
            int end = start;
            while (end < film.size() && caption.frames.contains(film.get(end))) {
                end++;
            }
            if (end > start && (best == null || end - start > best[1])) {
                best = new int[] {start, end - start};
            }
            start = Math.max(start, end - 1);
        }
        return best;
    }

    int addShot(int frames) {
        argument(within(frames, 1, 400));
        state(shots.size() < 12);
        for (int i = 0; i < frames; i++) {
            film.add(1000 * shots.size() + i);
        }
        shots.add(frames);
        return shots.size() - 1;
    }

    int cut(int from, int count) {
        index(isPlace(from));
        index(count < 1 || (long) from + count <= film.size());
        argument(count >= 1);
        film.subList(from, from + count).clear();
        return film.size();
    }

    int move(int from, int count, int to) {
        index(isPlace(from));
        index(count < 1 || (long) from + count <= film.size() && within(to, 0, film.size() - count));
        argument(count >= 1);
        List<String> before = times();
        List<Integer> part = new ArrayList<>(film.subList(from, from + count));
        film.subList(from, from + count).clear();
        film.addAll(to, part);
        List<String> behind = times();
        int changed = 0;
        for (int i = 0; i < before.size(); i++) {
            changed += before.get(i).equals(behind.get(i)) ? 0 : 1;
        }
        return changed;
    }

    private List<String> times() {
        List<String> times = new ArrayList<>();
        for (Caption caption : captions) {
            times.add(Arrays.toString(time(caption)));
        }
        return times;
    }

    int putBack(int shot, int first, int count, int at) {
        index(within(shot, 0, shots.size() - 1));
        index(within(first, 0, shots.get(shot) - 1));
        index(count < 1 || (long) first + count <= shots.get(shot) && within(at, 0, film.size()));
        argument(count >= 1);
        List<Integer> part = new ArrayList<>();
        for (int i = first; i < first + count; i++) {
            state(!film.contains(1000 * shot + i));
            part.add(1000 * shot + i);
        }
        film.addAll(at, part);
        return film.size();
    }

    int frames() {
        return film.size();
    }

    int frameAt(int place) {
        index(isPlace(place));
        return film.get(place);
    }

    int placeOf(int shot, int frame) {
        index(within(shot, 0, shots.size() - 1));
        index(within(frame, 0, shots.get(shot) - 1));
        return film.indexOf(1000 * shot + frame);
    }

    boolean isBoundary(int place) {
        index(isPlace(place));
        return place > 0 && film.get(place) - film.get(place - 1) != 1;
    }

    private Set<Integer> framesOf(int from, int count) {
        index(isPlace(from));
        index(!within(count, 1, 250) || from + count <= film.size());
        argument(within(count, 1, 250));
        return new HashSet<>(film.subList(from, from + count));
    }

    int add(int from, int count) {
        Caption caption = new Caption();
        caption.frames = framesOf(from, count);
        state(captions.size() < 16);
        captions.add(caption);
        return captions.size() - 1;
    }

    int lay(int caption, int from, int count) {
        Caption of = caption(caption);
        Set<Integer> frames = framesOf(from, count);
        int before = startOf(caption);
        of.frames = frames;
        of.names.forEach(Map::clear);
        return before;
    }

    int setLook(int caption, int look) {
        Caption of = caption(caption);
        argument(within(look, 0, 3));
        int before = of.look;
        if (before != look) {
            of.names.forEach(Map::clear);
        }
        of.look = look;
        return before;
    }

    int captions() {
        return captions.size();
    }

    int startOf(int caption) {
        int[] time = time(caption(caption));
        return time == null ? -1 : time[0];
    }

    int lengthOf(int caption) {
        int[] time = time(caption(caption));
        return time == null ? 0 : time[1];
    }

    private List<Integer> order() {
        List<Integer> order = new ArrayList<>();
        for (int i = 0; i < captions.size(); i++) {
            if (time(captions.get(i)) != null) {
                order.add(i);
            }
        }
        order.sort((one, other) -> Integer.compare(startOf(one), startOf(other)));
        return order;
    }

    int inOrder(int place) {
        argument(place >= 0);
        List<Integer> order = order();
        return place < order.size() ? order.get(place) : -1;
    }

    private void settle(int caption, int tongue) {
        now++;
        captions.get(caption).settledAt[tongue] = now;
    }

    private void changed(int caption, int tongue) {
        settle(caption, tongue);
        captions.get(caption).names.get(tongue).clear();
        if (tongue == 0) {
            captions.get(caption).changedAt = now;
        }
    }

    int type(int caption, int tongue, int sign) {
        List<Integer> text = text(caption, tongue);
        argument(sign == 10 || within(sign, 32, 55295) || within(sign, 57344, 131071));
        state(text.size() < 60);
        text.add(sign);
        changed(caption, tongue);
        return text.size();
    }

    int erase(int caption, int tongue) {
        List<Integer> text = text(caption, tongue);
        state(!text.isEmpty());
        changed(caption, tongue);
        return text.remove(text.size() - 1);
    }

    int signs(int caption, int tongue) {
        return text(caption, tongue).size();
    }

    int signAt(int caption, int tongue, int index) {
        List<Integer> text = text(caption, tongue);
        index(within(index, 0, text.size() - 1));
        return text.get(index);
    }

    private static int width(List<Integer> signs) {
        int width = 0;
        for (int sign : signs) {
            if (sign != 10 && !within(sign, 768, 879)) {
                width += sign >= 65536 || within(sign, 11904, 55215) ? 2 : 1;
            }
        }
        return width;
    }

    int width(int caption, int tongue) {
        return width(text(caption, tongue));
    }

    /** Of each row the index of its first sign, and the one behind its last. */
    private List<int[]> rows(List<Integer> text) {
        List<int[]> rows = new ArrayList<>();
        for (int[] part : parts(text)) {
            int[] split = text.isEmpty() ? null : split(text, part);
            if (split != null) {
                rows.add(new int[] {part[0], split[0]});
                rows.add(new int[] {split[0] + 1, part[1]});
            } else if (!text.isEmpty()) {
                rows.add(part);
            }
        }
        return rows;
    }

    private static List<int[]> parts(List<Integer> text) {
        List<int[]> parts = new ArrayList<>();
        int first = 0;
        for (int i = 0; i < text.size(); i++) {
            if (text.get(i) == 10) {
                parts.add(new int[] {first, i});
                first = i + 1;
            }
        }
        parts.add(new int[] {first, text.size()});
        return parts;
    }

    /** The index of the space and its cost; null if the part is not split. */
    private int[] split(List<Integer> text, int[] part) {
        if (width(text.subList(part[0], part[1])) <= rowWidth) {
            return null;
        }
        int[] best = null;
        for (int i = part[0]; i < part[1]; i++) {
            if (text.get(i) == 32) {
                List<Integer> ahead = text.subList(part[0], i);
                List<Integer> behind = text.subList(i + 1, part[1]);
                boolean fit = width(ahead) <= rowWidth && width(behind) <= rowWidth;
                if (fit && !ahead.isEmpty() && !behind.isEmpty()) {
                    int dear = ".,;:!?".indexOf(ahead.get(ahead.size() - 1)) >= 0 ? 0 : 5;
                    int cost = Math.abs(width(ahead) - width(behind)) + dear;
                    best = best == null || cost < best[1] ? new int[] {i, cost} : best;
                }
            }
        }
        return best;
    }

    int rows(int caption, int tongue) {
        return rows(text(caption, tongue)).size();
    }

    int row(int caption, int tongue, int row) {
        List<int[]> rows = rows(text(caption, tongue));
        index(within(row, 0, rows.size() - 1));
        return 100 * rows.get(row)[0] + rows.get(row)[1];
    }

    int setLimits(int width, int speed) {
        argument(within(width, 5, 60) && within(speed, 5, 50));
        int before = rowWidth;
        rowWidth = width;
        this.speed = speed;
        return before;
    }

    int confirm(int caption, int tongue) {
        List<Integer> text = text(caption, tongue);
        index(tongue != 0);
        List<Integer> original = text(caption, 0);
        state(!text.isEmpty() && !original.isEmpty());
        LinkedHashMap<List<Integer>, List<Integer>> memory = memories.get(tongue);
        memory.remove(original);
        memory.put(new ArrayList<>(original), new ArrayList<>(text));
        if (memory.size() == 9) {
            memory.remove(memory.keySet().iterator().next());
        }
        settle(caption, tongue);
        return memory.size();
    }

    int fill(int tongue) {
        index(within(tongue, 1, 2));
        LinkedHashMap<List<Integer>, List<Integer>> memory = memories.get(tongue);
        int filled = 0;
        for (int i = 0; i < captions.size(); i++) {
            List<Integer> text = text(i, tongue);
            List<Integer> kept = memory.get(text(i, 0));
            if ((text.isEmpty() || isStale(i, tongue)) && kept != null) {
                text.clear();
                text.addAll(kept);
                List<Integer> original = new ArrayList<>(text(i, 0));
                memory.remove(original);
                memory.put(original, kept);
                changed(i, tongue);
                filled++;
            }
        }
        return filled;
    }

    boolean isStale(int caption, int tongue) {
        List<Integer> text = text(caption, tongue);
        Caption of = caption(caption);
        return tongue > 0 && !text.isEmpty() && of.changedAt > of.settledAt[tongue];
    }

    int memory(int tongue) {
        index(within(tongue, 1, 2));
        return memories.get(tongue).size();
    }

    private boolean breaks(int caption, int tongue, int rule) {
        Caption of = captions.get(caption);
        List<Integer> text = text(caption, tongue);
        int[] time = time(of);
        switch (rule) {
            case 0:
                return text.isEmpty();
            case 1:
                return rows(text).size() > 2
                    || rows(text).stream().anyMatch(row -> width(text.subList(row[0], row[1])) > rowWidth);
            case 2:
                return time != null && 25 * width(text) > speed * time[1];
            case 3:
                return time != null && hangs(time[0], time[0] + time[1]);
            case 4:
                return time != null && isClose(caption, time[0], time[0] + time[1]);
            case 5:
                return isStale(caption, tongue);
            case 6:
                return time == null;
            default:
                return of.look == 1 && !text.isEmpty() && !isOfTwo(text);
        }
    }

    private boolean hangs(int start, int end) {
        for (int place = 0; place < film.size(); place++) {
            boolean near = place - start < 12 || end - place < 12;
            if (place > start && place < end && near && isBoundary(place)) {
                return true;
            }
        }
        return false;
    }

    private boolean isClose(int caption, int start, int end) {
        for (int other = 0; other < captions.size(); other++) {
            boolean like = (captions.get(other).look == 3) == (captions.get(caption).look == 3);
            int[] time = time(captions.get(other));
            if (like && time != null) {
                boolean same = time[0] == start && other > caption;
                boolean later = time[0] > start && time[0] < end + 2;
                if (same || later) {
                    return true;
                }
            }
        }
        return false;
    }

    private static boolean isOfTwo(List<Integer> text) {
        List<int[]> parts = parts(text);
        for (int[] part : parts) {
            if (part[0] == part[1] || text.get(part[0]) != 45) {
                return false;
            }
        }
        return parts.size() == 2;
    }

    int broken(int caption, int tongue) {
        text(caption, tongue);
        int set = 0;
        for (int rule = 0; rule < 8; rule++) {
            set += breaks(caption, tongue, rule) ? 1 << rule : 0;
        }
        return set;
    }

    int letGo(int caption, int tongue, int rule, int name) {
        text(caption, tongue);
        index(within(rule, 0, 7));
        argument(within(name, 1, 99));
        state(breaks(caption, tongue, rule));
        Integer before = captions.get(caption).names.get(tongue).put(rule, name);
        return before == null ? 0 : before;
    }

    int nameOf(int caption, int tongue, int rule) {
        text(caption, tongue);
        index(within(rule, 0, 7));
        return captions.get(caption).names.get(tongue).getOrDefault(rule, 0);
    }

    int faults(int tongue) {
        index(within(tongue, 0, 2));
        int sum = 0;
        for (int caption = 0; caption < captions.size(); caption++) {
            for (int rule = 0; rule < 8; rule++) {
                sum += breaks(caption, tongue, rule) && nameOf(caption, tongue, rule) == 0 ? 1 : 0;
            }
        }
        return sum;
    }

    String page(int format, int tongue) {
        argument(within(format, 0, 1));
        index(within(tongue, 0, 2));
        StringBuilder page = new StringBuilder();
        int number = 1;
        for (int caption : order()) {
            List<Integer> text = text(caption, tongue);
            if (!text.isEmpty()) {
                int[] time = time(captions.get(caption));
                String entry = entry(format, number, captions.get(caption).look, rowTexts(text));
                String start = format == 0 ? clock(time[0]) : String.valueOf(time[0]);
                String end = format == 0 ? clock(time[0] + time[1]) : String.valueOf(time[0] + time[1]);
                page.append(entry.replaceFirst("START", start).replaceFirst("END", end));
                number++;
            }
        }
        return page.toString();
    }

    private List<String> rowTexts(List<Integer> text) {
        List<String> rows = new ArrayList<>();
        for (int[] row : rows(text)) {
            StringBuilder signs = new StringBuilder();
            text.subList(row[0], row[1]).forEach(signs::appendCodePoint);
            rows.add(signs.toString());
        }
        return rows;
    }

    private static String entry(int format, int number, int look, List<String> rows) {
        if (format == 1) {
            return "{START}{END}" + (look == 2 ? "/" : look == 3 ? "^" : "") + String.join("|", rows) + "\n";
        }
        String note = look == 2 ? "\u266a" : "";
        String blank = look == 2 ? " " : "";
        return number + "\nSTART > END\n" + note + blank + String.join("\n", rows) + blank + note + "\n\n";
    }

    private static String clock(int place) {
        return String.format("%d:%02d:%02d", place / 25 / 60, place / 25 % 60, place % 25);
    }

    int written(int format, int tongue) {
        return page(format, tongue).length();
    }

    char writtenChar(int format, int tongue, int index) {
        String page = page(format, tongue);
        index(within(index, 0, page.length() - 1));
        return page.charAt(index);
    }
}

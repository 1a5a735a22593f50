import java.util.Random;
import java.util.concurrent.Callable;

/** Runs of up to 512 calls on a house and a plain one: each answer and exception must be the same. The runs are the same each time. */
final class RandomRunsTest {
    private static final int[] EXTREMES = {Integer.MIN_VALUE, -2, -1, 0, 1, 400, 401, Integer.MAX_VALUE};
    private static final int[] PLAIN_SIGNS = {'a', 'b', ' ', ' ', ',', '-', 10, '.', 0x4e2d, 0x301, 0x1f600};
    private static final int[] FEW_SIGNS = {'a', 'b'};
    private static final int[] EDGE_SIGNS = {0, 9, 10, 11, 31, 32, 767, 768, 879, 880, 11903, 11904, 55215, 55216, 55295,
        55296, 57343, 57344, 65535, 65536, 131071, 131072, -1, Integer.MAX_VALUE, Integer.MIN_VALUE};
    private static final int[] STOPS = {46, 44, 59, 58, 33, 63, 45, 47};

    private final Random random;
    private final CaptionHouse house = new CaptionHouse();
    private final PlainHouse plain = new PlainHouse();
    private final int shotFrames;
    private final int wildness;
    private final int kind;
    private final String name;

    private RandomRunsTest(int run) {
        random = new Random(run);
        name = "run " + run;
        shotFrames = random.nextInt(4) == 0 ? 400 : 40;
        wildness = random.nextInt(3) == 0 ? 6 : 40;
        kind = random.nextInt(4);
    }

    public static void main(String[] args) {
        int runs = args.length > 0 ? Integer.parseInt(args[0]) : 300;
        for (int run = 0; run < runs; run++) {
            new RandomRunsTest(run).go();
        }
        Checks.end("RandomRunsTest");
    }

    private void go() {
        setUp();
        while (calls < 512) {
            step();
        }
        Checks.due(name + ": what differs at its end", differences(), "");
    }

    private int calls = 0;

    private void same(String call, Callable<Object> real, Callable<Object> due) {
        calls++;
        Checks.due(name + ", call " + calls + ": " + call, Checks.outcome(real), Checks.outcome(due));
    }

    private void setUp() {
        for (int i = random.nextInt(4); i >= 0; i--) {
            int frames = 1 + random.nextInt(shotFrames);
            same("addShot(" + frames + ")", () -> house.addShot(frames), () -> plain.addShot(frames));
        }
        for (int i = kind == 1 ? 5 : kind == 3 ? 14 : random.nextInt(3); i > 0; i--) {
            add();
        }
        if (kind == 0 && random.nextBoolean()) {
            return;
        }
        int width = kind == 2 ? 5 + random.nextInt(4) : 5 + random.nextInt(20);
        same("setLimits(" + width + ", 30)", () -> house.setLimits(width, 30), () -> plain.setLimits(width, 30));
    }

    /** A number below the bound, or now and then one that is out of the range. */
    private int below(int bound) {
        if (random.nextInt(wildness) == 0) {
            return random.nextInt(3) == 0 ? EXTREMES[random.nextInt(EXTREMES.length)] : bound;
        }
        return bound > 0 ? random.nextInt(bound) : 0;
    }

    private int caption() {
        return below(plain.captions());
    }

    private int count(int most) {
        int least = random.nextInt(3) == 0 ? most : Math.min(most, 20);
        return below(Math.max(1, least)) + 1;
    }

    private void step() {
        int what = random.nextInt(100);
        if (what < 20) {
            film(random.nextInt(5));
        } else if (what < 35) {
            captions(random.nextInt(9));
        } else if (what < 65) {
            texts(random.nextInt(8));
        } else if (what < (kind == 1 ? 90 : 75)) {
            tongues(random.nextInt(5));
        } else if (what < 93) {
            checks(random.nextInt(5));
        } else {
            formats();
        }
    }

    private void film(int what) {
        int from = below(plain.frames());
        int count = count(plain.frames() - from);
        if (what == 0) {
            int frames = below(shotFrames) + 1;
            same("addShot(" + frames + ")", () -> house.addShot(frames), () -> plain.addShot(frames));
        } else if (what == 1) {
            int some = random.nextInt(8) == 0 ? count : Math.min(count, 9);
            same("cut(" + from + ", " + some + ")", () -> house.cut(from, some), () -> plain.cut(from, some));
        } else if (what == 2) {
            int to = below(plain.frames() - count + 1);
            same("move(" + from + ", " + count + ", " + to + ")", () -> house.move(from, count, to), () -> plain.move(from, count, to));
        } else if (what == 3) {
            putBack();
        } else {
            int shot = below(12);
            int frame = below(shotFrames);
            same("frames()", () -> house.frames(), () -> plain.frames());
            same("frameAt(" + from + ")", () -> house.frameAt(from), () -> plain.frameAt(from));
            same("placeOf(" + shot + ", " + frame + ")", () -> house.placeOf(shot, frame), () -> plain.placeOf(shot, frame));
            same("isBoundary(" + from + ")", () -> house.isBoundary(from), () -> plain.isBoundary(from));
        }
    }

    /** Puts back a run of frames that are in the bin, where there are any. */
    private void putBack() {
        int shot = below(4);
        int first = below(shotFrames);
        int found = first;
        for (int i = 0; i < shotFrames && isIn(shot, found); i++) {
            found = (found + 1) % shotFrames;
        }
        int frame = found;
        int most = frame;
        while (most >= 0 && most < shotFrames && isOut(shot, most)) {
            most++;
        }
        int count = random.nextInt(4) == 0 ? count(most - frame) : Math.max(1, most - frame);
        int at = below(plain.frames() + 1);
        same("putBack(" + shot + ", " + frame + ", " + count + ", " + at + ")",
            () -> house.putBack(shot, frame, count, at), () -> plain.putBack(shot, frame, count, at));
    }

    private boolean isIn(int shot, int frame) {
        return !Checks.outcome(() -> plain.placeOf(shot, frame)).equals("-1");
    }

    private boolean isOut(int shot, int frame) {
        return !isIn(shot, frame);
    }

    private void add() {
        int from = below(plain.frames());
        int count = count(Math.min(250, plain.frames() - from));
        same("add(" + from + ", " + count + ")", () -> house.add(from, count), () -> plain.add(from, count));
    }

    private void captions(int what) {
        int caption = caption();
        if (what < 2) {
            add();
        } else if (what == 2) {
            int from = below(plain.frames());
            int count = count(Math.min(250, plain.frames() - from));
            same("lay(" + caption + ", " + from + ", " + count + ")", () -> house.lay(caption, from, count), () -> plain.lay(caption, from, count));
        } else if (what == 3) {
            int look = below(4);
            same("setLook(" + caption + ", " + look + ")", () -> house.setLook(caption, look), () -> plain.setLook(caption, look));
        } else if (what == 4) {
            same("captions()", () -> house.captions(), () -> plain.captions());
        } else if (what == 5) {
            int place = below(8);
            same("inOrder(" + place + ")", () -> house.inOrder(place), () -> plain.inOrder(place));
        } else {
            same("startOf(" + caption + ")", () -> house.startOf(caption), () -> plain.startOf(caption));
            same("lengthOf(" + caption + ")", () -> house.lengthOf(caption), () -> plain.lengthOf(caption));
            same("startByFrames(" + caption + ")", () -> house.startByFrames(caption), () -> plain.startOf(caption));
        }
    }

    private void texts(int what) {
        int caption = caption();
        int tongue = below(3);
        String of = "(" + caption + ", " + tongue;
        if (what < 4) {
            for (int i = kind == 1 ? 1 : 1 + random.nextInt(14); i > 0; i--) {
                int sign = sign();
                same("type" + of + ", " + sign + ")", () -> house.type(caption, tongue, sign), () -> plain.type(caption, tongue, sign));
            }
        } else if (what == 4) {
            for (int i = 1 + random.nextInt(3); i > 0; i--) {
                same("erase" + of + ")", () -> house.erase(caption, tongue), () -> plain.erase(caption, tongue));
            }
        } else if (what == 5) {
            int index = below(10);
            same("signs" + of + ")", () -> house.signs(caption, tongue), () -> plain.signs(caption, tongue));
            same("signAt" + of + ", " + index + ")", () -> house.signAt(caption, tongue, index), () -> plain.signAt(caption, tongue, index));
            same("width" + of + ")", () -> house.width(caption, tongue), () -> plain.width(caption, tongue));
        } else if (what == 6) {
            int row = below(3);
            same("rows" + of + ")", () -> house.rows(caption, tongue), () -> plain.rows(caption, tongue));
            same("row" + of + ", " + row + ")", () -> house.row(caption, tongue, row), () -> plain.row(caption, tongue, row));
        } else {
            int width = 5 + below(kind == 2 ? 10 : 56);
            int speed = 5 + below(46);
            same("setLimits(" + width + ", " + speed + ")", () -> house.setLimits(width, speed), () -> plain.setLimits(width, speed));
        }
    }

    private int sign() {
        int[] of = kind == 1 ? FEW_SIGNS : random.nextInt(20) == 0 ? EDGE_SIGNS : random.nextInt(6) == 0 ? STOPS : PLAIN_SIGNS;
        return of[random.nextInt(of.length)];
    }

    private void tongues(int what) {
        int caption = caption();
        int tongue = random.nextInt(wildness) == 0 ? below(3) : 1 + below(2);
        if (what < 2) {
            same("confirm(" + caption + ", " + tongue + ")", () -> house.confirm(caption, tongue), () -> plain.confirm(caption, tongue));
        } else if (what == 2) {
            same("fill(" + tongue + ")", () -> house.fill(tongue), () -> plain.fill(tongue));
        } else if (what == 3) {
            same("isStale(" + caption + ", " + tongue + ")", () -> house.isStale(caption, tongue), () -> plain.isStale(caption, tongue));
        } else {
            same("memory(" + tongue + ")", () -> house.memory(tongue), () -> plain.memory(tongue));
        }
    }

    private void checks(int what) {
        int caption = caption();
        int tongue = below(3);
        int rule = below(8);
        if (what < 2) {
            int name = 1 + below(99);
            int one = random.nextBoolean() ? rule : brokenRule(caption, tongue, rule);
            same("letGo(" + caption + ", " + tongue + ", " + one + ", " + name + ")",
                () -> house.letGo(caption, tongue, one, name), () -> plain.letGo(caption, tongue, one, name));
        } else if (what == 2) {
            same("broken(" + caption + ", " + tongue + ")", () -> house.broken(caption, tongue), () -> plain.broken(caption, tongue));
        } else if (what == 3) {
            same("nameOf(" + caption + ", " + tongue + ", " + rule + ")", () -> house.nameOf(caption, tongue, rule), () -> plain.nameOf(caption, tongue, rule));
        } else {
            same("faults(" + tongue + ")", () -> house.faults(tongue), () -> plain.faults(tongue));
        }
    }

    private int brokenRule(int caption, int tongue, int otherwise) {
        String set = Checks.outcome(() -> plain.broken(caption, tongue));
        return set.startsWith("throws") || set.equals("0") ? otherwise : Integer.numberOfTrailingZeros(Integer.parseInt(set));
    }

    private void formats() {
        int format = below(2);
        int tongue = below(3);
        String of = "(" + format + ", " + tongue;
        if (random.nextBoolean()) {
            same("written" + of + ")", () -> house.written(format, tongue), () -> plain.written(format, tongue));
        }
        for (int i = 0; i < 4; i++) {
            int index = below(120);
            same("writtenChar" + of + ", " + index + ")", () -> house.writtenChar(format, tongue, index), () -> plain.writtenChar(format, tongue, index));
        }
    }

    private String differences() {
        StringBuilder wrong = new StringBuilder();
        for (int place = 0; place < plain.frames(); place++) {
            if (plain.frameAt(place) != house.frameAt(place) || plain.isBoundary(place) != house.isBoundary(place)) {
                wrong.append(" place ").append(place);
            }
        }
        for (int tongue = 0; tongue < 3; tongue++) {
            for (int caption = 0; caption < plain.captions(); caption++) {
                boolean same = plain.startOf(caption) == house.startOf(caption) && plain.lengthOf(caption) == house.lengthOf(caption)
                    && plain.inOrder(caption) == house.inOrder(caption)
                    && plain.broken(caption, tongue) == house.broken(caption, tongue) && namesAreSame(caption, tongue);
                if (!same) {
                    wrong.append(" text ").append(tongue).append(" of caption ").append(caption);
                }
            }
            for (int format = 0; format < 2; format++) {
                if (!plain.page(format, tongue).equals(State.page(house, format, tongue))) {
                    wrong.append(" page ").append(format).append(" of tongue ").append(tongue);
                }
            }
        }
        return wrong.toString();
    }

    private boolean namesAreSame(int caption, int tongue) {
        for (int rule = 0; rule < 8; rule++) {
            if (plain.nameOf(caption, tongue, rule) != house.nameOf(caption, tongue, rule)) {
                return false;
            }
        }
        return true;
    }
}

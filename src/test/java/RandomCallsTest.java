import java.util.Random;

/**
 * Long runs of calls on DeadRuns and on PlainModel; each answer has to be the same. The seeds are fixed.
 * Each object gets as many calls as the document lets it have, and none more.
 */
public final class RandomCallsTest {
    private static final int OBJECTS = 800;
    private static final int MOST_CALLS = 512;
    /** More than one step takes, so that the last one ends in time. */
    private static final int MOST_CALLS_OF_STEP = 100;
    private static final int METHODS = 28;
    private static final String[] TEXTS = {
        "x;1*2;x*3", "0*3000", "1;1;2*2;2", "5*10", "3*3001", "x*3000;1", "9*0", "7*12;", "a", ";", "1*", "x*299;1*9",
        "1;2;3;4;5;6;7;8;9;0;x;1;2;3;4;5;6;7;8;9;0;x;1;2;3;4;5;6;7;8;9;0;x;1;2;3;4;5;6;7;8", "X", "12", "x*30001",
    };

    private final Random random;
    private final DeadRuns row = new DeadRuns();
    private final PlainModel model = new PlainModel();
    private final String seed;
    private final boolean withLongRuns;
    private final boolean withManyRuns;
    private final boolean withAllCounts;
    private int calls = 0;
    private final StringBuilder told = new StringBuilder();
    private int wrong = 0;

    private RandomCallsTest(int seed) {
        this.random = new Random(seed);
        this.seed = "seed " + seed;
        this.withLongRuns = seed % 3 == 0;
        this.withManyRuns = seed % 3 == 1;
        this.withAllCounts = seed % 4 == 0;
    }

    public static void main(String[] args) {
        int wrong = 0;
        for (int seed = 0; seed < OBJECTS; seed++) {
            RandomCallsTest test = new RandomCallsTest(seed);
            test.callAll();
            wrong += test.wrong;
        }
        System.out.println("random calls: " + OBJECTS + " objects, " + wrong + " wrong answers");
        if (wrong != 0) {
            System.exit(1);
        }
    }

    private void callAll() {
        while (calls <= MOST_CALLS - 2 * MOST_CALLS_OF_STEP && wrong == 0) {
            if (withManyRuns && model.count(1) < 40 && model.count(0) < 2800) {
                insertShortRuns();
            }
            callOne(random.nextInt(METHODS));
            compareCounts();
        }
        compareRow();
        if (calls > MOST_CALLS) {
            wrong++;
            System.out.println(seed + ": " + calls + " calls of one object");
        }
    }

    private void compareCounts() {
        int only = random.nextInt(11);
        for (int what = 0; what <= 10; what++) {
            if (withAllCounts || what == only) {
                same("count", row.count(what), model.count(what), what);
            }
        }
    }

    /** So that many edits stand near the most runs that there may be. */
    private void insertShortRuns() {
        for (int i = 0; i < 60 && model.count(1) < 49; i++) {
            int at = random.nextInt(model.count(0) + 1);
            int sign = random.nextInt(11);
            int many = 1 + random.nextInt(3);
            same3("insert", row.insert(at, sign, many), model.insert(at, sign, many), at, sign, many);
        }
    }

    /** With the calls that are left: stretches of the row, of its text and of its bits. */
    private void compareRow() {
        int most = (MOST_CALLS - calls) / 3;
        int first = random.nextInt(model.count(0) + 1);
        for (int i = 0; i < most; i++) {
            same("sign", row.sign(first + i - 1), model.sign(first + i - 1), first + i - 1);
        }
        first = random.nextInt(model.count(4) + 1);
        for (int i = 0; i < most; i++) {
            same("character", row.character(first + i - 1), model.character(first + i - 1), first + i - 1);
        }
        first = random.nextInt(model.count(3) + 1);
        for (int i = 0; i < most; i++) {
            same("bit", row.bit(first + i - 1), model.bit(first + i - 1), first + i - 1);
        }
    }

    private void same(String call, int got, int want, long... arguments) {
        calls++;
        if (got != want && wrong == 0) {
            wrong++;
            System.out.println(seed + told + "\n" + call + java.util.Arrays.toString(arguments) + " answered " + got + ", due is " + want);
        }
    }

    private void same3(String call, int got, int want, int a, int b, int c) {
        told.append("\n ").append(call).append("(").append(a).append(", ").append(b).append(", ").append(c).append(") = ").append(got);
        same(call, got, want, a, b, c);
    }

    private int odd(int usual) {
        return switch (random.nextInt(60)) {
            case 0 -> -1;
            case 1 -> Integer.MAX_VALUE;
            case 2 -> Integer.MIN_VALUE;
            case 3 -> 11;
            case 4 -> 3001;
            default -> usual;
        };
    }

    private int place() {
        return odd(random.nextInt(model.count(0) + 1));
    }

    private int many(int first) {
        int rest = Math.max(1, model.count(0) - Math.max(0, Math.min(first, 3000)));
        return switch (random.nextInt(6)) {
            case 0 -> odd(rest);
            case 1 -> odd(rest + 1);
            case 2 -> odd(1 + random.nextInt(rest));
            default -> odd(1 + random.nextInt(Math.min(rest, 6)));
        };
    }

    private long characters() {
        return switch (random.nextInt(6)) {
            case 0 -> random.nextLong();
            case 1 -> random.nextInt(3) * 256L + random.nextInt(130);
            case 2 -> 0x3100310031L;
            default -> Pads.packed(randomText());
        };
    }

    private String randomText() {
        StringBuilder text = new StringBuilder();
        String signs = "0123456789x*;;;***1239x";
        for (int i = random.nextInt(8); i >= 0; i--) {
            text.append(signs.charAt(random.nextInt(signs.length())));
        }
        return text.toString();
    }

    private void callOne(int method) {
        int first = place();
        int many = many(first);
        int sign = odd(random.nextInt(11));
        switch (method) {
            case 0 -> {
                int setting = random.nextInt(2);
                int value = odd(random.nextInt(setting == 0 ? 4 : 3));
                same3("set", row.set(setting, value), model.set(setting, value), setting, value, 0);
            }
            case 1, 2, 3, 4 -> {
                int more = odd(1 + random.nextInt(withLongRuns && random.nextInt(4) == 0 ? 3000 : 5));
                same3("insert", row.insert(first, sign, more), model.insert(first, sign, more), first, sign, more);
            }
            case 5 -> same3("erase", row.erase(first, many), model.erase(first, many), first, many, 0);
            case 6 -> same3("write", row.write(first, many, sign), model.write(first, many, sign), first, many, sign);
            case 7 -> same3("add", row.add(first, many, sign), model.add(first, many, sign), first, many, sign);
            case 8 -> same3("kill", row.kill(first, many), model.kill(first, many), first, many, 0);
            case 9 -> same3("revive", row.revive(first, many), model.revive(first, many), first, many, 0);
            case 10, 11 -> same3("turn", row.turn(first, many), model.turn(first, many), first, many, 0);
            case 12, 13 -> {
                int to = place();
                same3("move", row.move(first, many, to), model.move(first, many, to), first, many, to);
            }
            case 14 -> {
                int run = odd(random.nextInt(model.count(1) + 2));
                int what = odd(random.nextInt(5));
                same("ofRun", row.ofRun(run, what), model.ofRun(run, what), run, what);
            }
            case 15 -> same("howMany", row.howMany(first, many, sign), model.howMany(first, many, sign), first, many, sign);
            case 16 -> whatIf();
            case 17, 18 -> found();
            case 19, 20 -> {
                long characters = characters();
                told.append("\n put(").append(characters).append(")");
                same("put", row.put(characters), model.put(characters), characters);
                same("fault", row.fault(), model.fault());
            }
            case 21 -> same3("wipe", row.wipe(), model.wipe(), 0, 0, 0);
            case 22 -> same3("load", row.load(), model.load(), 0, 0, 0);
            case 23 -> loadText(TEXTS[random.nextInt(TEXTS.length)]);
            case 24, 25 -> same3("undo", row.undo(), model.undo(), 0, 0, 0);
            default -> {
                int slot = odd(random.nextInt(3));
                if (random.nextBoolean()) {
                    same3("save", row.save(slot), model.save(slot), slot, 0, 0);
                } else {
                    same3("restore", row.restore(slot), model.restore(slot), slot, 0, 0);
                }
            }
        }
    }

    private void whatIf() {
        for (int code = -1; code < 4; code++) {
            same("size", row.size(code), model.size(code), code);
            same("bestWrite", row.bestWrite(code), model.bestWrite(code), code);
            same("longestLive", row.longestLive(code), model.longestLive(code), code);
        }
        same("bestCode", row.bestCode(), model.bestCode());
        same("unlikeMirror", row.unlikeMirror(), model.unlikeMirror());
        int at = odd(random.nextInt(20));
        same("bit", row.bit(at), model.bit(at), at);
        same("character", row.character(at), model.character(at), at);
        same("sign", row.sign(at), model.sign(at), at);
    }

    /** Half of the patterns are made of signs that stand in the row. */
    private void found() {
        int from = random.nextInt(5) == 0 ? place() : 0;
        int first = random.nextInt(model.count(0) + 1);
        int pattern = 0;
        for (int i = random.nextInt(9); i >= 0; i--) {
            int sign = random.nextBoolean() ? model.sign(first++) : random.nextInt(10);
            pattern = pattern * 10 + Math.max(0, Math.min(sign, 9));
        }
        pattern = odd(pattern);
        same("find", row.find(from, pattern), model.find(from, pattern), from, pattern);
    }

    private void loadText(String text) {
        told.append("\n wipe, put ").append(text);
        same("wipe", row.wipe(), model.wipe());
        for (int i = 0; i < text.length(); i += 8) {
            long part = Pads.packed(text.substring(i, Math.min(text.length(), i + 8)));
            same("put", row.put(part), model.put(part), part);
        }
        same("fault", row.fault(), model.fault());
        same3("load", row.load(), model.load(), 0, 0, 0);
    }
}

import java.lang.reflect.InvocationTargetException;
import java.lang.reflect.Method;
import java.util.Arrays;
import java.util.Random;
import java.util.TreeMap;

/**
 * Runs of at most 512 calls, drawn from written seeds, on the class and on the model: each answer must be the same. Each
 * second run ends earlier, with a look at all that there is.
 */
public final class ModelTest {
    private static final int NONE = BlameChains.NONE;
    private static final int RUNS = 1600;
    private static final int CALLS = 512;
    private static final int CALLS_BEFORE_LOOK = 200;
    private static final int[] WILD = {Integer.MIN_VALUE, Integer.MAX_VALUE, NONE - 2, NONE - 1, NONE, -9999, -1000, -999,
        -201, -100, -99, -10, -9, -1, 0, 1, 9, 10, 11, 14, 99, 100, 120, 200, 201, 255, 256, 999, 1000, 9999, 10000};
    private static final String[] OFTEN = {"add", "chain", "net", "own", "link", "call", "call", "call", "would", "would",
        "mostBlamed", "firstBad", "reach", "runScript", "runScript", "simulate", "undo", "blame", "part", "stands"};

    private final Random random;
    private final BlameChains real = new BlameChains();
    private final Model model = new Model();
    private final TreeMap<String, Method> reals = faceOf(BlameChains.class);
    private final TreeMap<String, Method> models = faceOf(Model.class);
    private int wrong = 0;
    private int calls = 0;

    private ModelTest(long seed) {
        random = new Random(seed);
    }

    public static void main(String[] args) {
        for (long seed = 0; seed < RUNS; seed++) {
            new ModelTest(seed).run(seed);
        }
        Checks.end("ModelTest");
    }

    private static TreeMap<String, Method> faceOf(Class<?> type) {
        TreeMap<String, Method> face = new TreeMap<>();
        for (Method method : type.getDeclaredMethods()) {
            if (java.lang.reflect.Modifier.isPublic(method.getModifiers())) {
                face.put(method.getName(), method);
            }
        }
        return face;
    }

    private void run(long seed) {
        String[] names = reals.keySet().toArray(new String[0]);
        boolean ends = seed % 2 == 1;
        int most = ends ? between(1, CALLS_BEFORE_LOOK) : CALLS;
        for (int i = 0; calls < most && wrong == 0; i++) {
            int kind = random.nextInt(100);
            if (i < 12 && kind < 60) {
                same(seed, i, "add", between(-9, 9), between(-99, 99));
            } else if (kind < 2) {
                writePlan(seed, i);
            } else {
                String name = kind < 75 ? OFTEN[random.nextInt(OFTEN.length)] : names[random.nextInt(names.length)];
                same(seed, i, name, argumentsFor(name));
            }
        }
        if (ends) {
            compareAll(seed, most);
        }
    }

    private int between(int low, int high) {
        return low + random.nextInt(high - low + 1);
    }

    private int drawn(int low, int high) {
        int kind = random.nextInt(60);
        return kind == 0 ? WILD[random.nextInt(WILD.length)] : kind == 1 ? low - 1 : kind == 2 ? high + 1
            : kind == 3 ? low : kind == 4 ? high : between(low, high);
    }

    private int partNumber() {
        return drawn(0, Math.max(0, model.about(0) - 1));
    }

    private static int near(int p) {
        return Math.max(0, Math.min(p, 20));
    }

    private int callerOf(int p, boolean ownToo) {
        int kind = random.nextInt(ownToo ? 6 : 4);
        int least = near(p) + 1;
        return kind == 0 ? NONE : kind >= 4 ? NONE - 1 : drawn(least, Math.max(least, model.about(0) - 1));
    }

    private Object[] range(int wide) {
        int a = drawn(-wide, wide);
        int b = drawn(-wide, wide);
        boolean turned = random.nextInt(30) == 0;
        return new Object[] {turned ? Math.max(a, b) : Math.min(a, b), turned ? Math.min(a, b) : Math.max(a, b)};
    }

    private Object[] argumentsFor(String name) {
        int p = partNumber();
        int q = partNumber();
        switch (name) {
            case "append": return new Object[] {drawn(0, 255)};
            case "about": return new Object[] {drawn(0, 8)};
            case "part": return new Object[] {p, drawn(0, 8)};
            case "contract": return new Object[] {callerOf(p, true), p, drawn(0, 3)};
            case "blame": return new Object[] {drawn(0, 9), drawn(0, 5)};
            case "add": return new Object[] {drawn(-9, 9), drawn(-99, 99)};
            case "chain": return new Object[] {p, random.nextInt(8) == 0 ? NONE : drawn(0, Math.max(0, near(p) - 1)), drawn(-99, 99)};
            case "net": return new Object[] {p, random.nextInt(3) == 0 ? NONE : drawn(-99, 99)};
            case "own": return joined(new Object[] {p}, range(800), range(4000));
            case "link": return joined(new Object[] {callerOf(p, false), p}, range(800), range(4000));
            case "drop": return new Object[] {callerOf(p, true), p};
            case "call": return new Object[] {p, drawn(-999, 999)};
            case "would": return new Object[] {p, drawn(-999, 999), drawn(0, 4)};
            case "stands": return new Object[] {callerOf(p, true), p, callerOf(q, true), q};
            case "firstBad":
            case "mostBlamed": return new Object[] {p, drawn(-999, 999), drawn(1, 200)};
            case "reach": return new Object[] {p, drawn(-999, 999), random.nextBoolean()};
            case "runScript": return script();
            case "simulate": return new Object[] {random.nextLong(), drawn(1, 99)};
            case "save":
            case "restore": return new Object[] {drawn(0, 1)};
            default: return new Object[0];
        }
    }

    private static Object[] joined(Object[] first, Object[] second, Object[] third) {
        Object[] all = Arrays.copyOf(first, first.length + 4);
        System.arraycopy(second, 0, all, first.length, 2);
        System.arraycopy(third, 0, all, first.length + 2, 2);
        return all;
    }

    private Object[] script() {
        int n = drawn(1, 3);
        if (random.nextInt(20) == 0) {
            return new Object[] {n, random.nextLong() >> random.nextInt(64)};
        }
        long script = 0;
        for (int i = 0; i < Math.min(n, 3); i++) {
            int command = between(0, 20) == 0 ? 0 : between(1, 9);
            int p = between(0, Math.max(0, model.about(0) - 1));
            int rest = command == 1 || command == 2 || command == 9 ? between(0, 999)
                : command == 3 || command == 6 ? 100 * between(0, 9) : command == 5 ? 0 : between(0, 99);
            if (command == 9 && p < model.about(0) && random.nextBoolean()) {
                rest = Math.max(0, Math.min(999, model.would(p, 0, 0) + 500));
            }
            if (command == 8) {
                p = 0;
                rest = Math.min(99, Math.max(0, model.about(5) + between(-1, 3)));
            }
            if (random.nextInt(20) == 0) {
                rest = between(0, 999);
            }
            script = script * 100000 + command * 10000 + p * 1000 + rest;
        }
        return new Object[] {n, script};
    }

    private String signed(int low, int high) {
        int number = between(low, high);
        return (number < 0 ? "-" : "+") + (Math.abs(number) < 10 ? "0" : "") + Math.abs(number);
    }

    private void writePlan(long seed, int i) {
        StringBuilder text = new StringBuilder("C");
        int commands = between(0, 14);
        for (int c = 0; c < commands; c++) {
            int digit = random.nextInt(4);
            switch (random.nextInt(7)) {
                case 0: text.append('s').append(digit).append(random.nextInt(3)).append(signed(-99, 99)); break;
                case 1: text.append('o').append(digit).append(signed(-99, 9)).append(signed(-9, 99)).append(signed(-99, 9)).append(signed(-9, 99)); break;
                case 2: text.append('k').append(signed(-99, 99)); break;
                case 3: text.append('x').append(digit); break;
                default: text.append('n').append(signed(-9, 9)).append(signed(-99, 99)); break;
            }
        }
        if (random.nextInt(2) == 0) {
            text.setCharAt(random.nextInt(text.length()), "Cnsokx+-0159 ".charAt(random.nextInt(13)));
        }
        text.setLength(random.nextInt(3) == 0 ? random.nextInt(text.length() + 1) : text.length());
        same(seed, i, "clearText");
        for (int at = 0; at < text.length(); at++) {
            same(seed, i, "append", (int) text.charAt(at));
        }
        same(seed, i, "errorPosition");
        same(seed, i, "load");
    }

    /** What there is, told in full: so a thrown call, or one that only asks, is seen if it changes something. */
    private void compareAll(long seed, int i) {
        for (int what = 0; what <= 8; what++) {
            same(seed, i, "about", what);
            for (int p = 0; p < 10; p++) {
                same(seed, i, "part", p, what);
            }
        }
        for (int k = 0; k < 10; k++) {
            for (int what = 0; what <= 5; what++) {
                same(seed, i, "blame", k, what);
            }
        }
        for (int p = 0; p < 10; p++) {
            for (int caller = -2; caller <= 11; caller++) {
                same(seed, i, "contract", caller == -2 ? NONE - 1 : caller == -1 ? NONE : caller, p, i % 4);
            }
        }
        same(seed, i, "holes");
        same(seed, i, "errorPosition");
    }

    private void same(long seed, int i, String name, Object... arguments) {
        if (calls >= CALLS) {
            return;
        }
        calls++;
        String got = answer(reals.get(name), real, arguments);
        String want = answer(models.get(name), model, arguments);
        if (!got.equals(want)) {
            wrong++;
            Checks.fail("seed " + seed + ", call " + i + ": " + name + Arrays.toString(arguments) + " answered " + got
                + ", the model " + want);
        }
    }

    private static String answer(Method method, Object object, Object[] arguments) {
        try {
            return String.valueOf(method.invoke(object, arguments));
        } catch (InvocationTargetException e) {
            return e.getCause().getClass().getName();
        } catch (IllegalAccessException e) {
            return e.toString();
        }
    }
}

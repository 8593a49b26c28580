import java.util.HashMap;
import java.util.Map;

/** What the tests of single sentences share: the sentence in hand, calls that are refused, and limits of arguments. */
abstract class Sentences {
    interface Call {
        int on(BlameChains b);
    }

    interface CallWith {
        int on(BlameChains b, int number);
    }

    static final int NONE = BlameChains.NONE;
    static final int OWN = NONE - 1;
    static final Class<IndexOutOfBoundsException> INDEX = IndexOutOfBoundsException.class;
    static final Class<IllegalArgumentException> ARGUMENT = IllegalArgumentException.class;
    static final Class<IllegalStateException> STATE = IllegalStateException.class;
    static final Scenes.Scene RICH = Scenes::rich;
    static final Scenes.Scene ANEW = Scenes::richAnew;

    /** Numbers so great or small that a product or a sum with them wraps around, perhaps to a number that is allowed. */
    private static final int[] WRAPPING = {Integer.MIN_VALUE, Integer.MIN_VALUE + 1, -(1 << 30), -(1 << 29), 1 << 28, 1 << 29,
        (1 << 29) + 1, 1 << 30, (1 << 30) + 1, 3 << 29, Integer.MAX_VALUE - 1, Integer.MAX_VALUE};
    private static final Map<Scenes.Scene, String> UNTOUCHED = new HashMap<>();
    private static String where = "";

    /** What follows is the test of this sentence. */
    static void sentence(String section, String words) {
        where = section + ", \"" + words + "\"";
        Document.name(section, words);
    }

    static void due(String what, long want, long got) {
        Checks.due(where + ": " + what, want, got);
    }

    static void due(String what, String want, String got) {
        if (!want.equals(got)) {
            Checks.fail(where + ": " + what + firstDifference(want, got));
        }
    }

    private static String firstDifference(String want, String got) {
        String[] wants = want.split("\n");
        String[] gots = got.split("\n");
        for (int i = 0; i < Math.min(wants.length, gots.length); i++) {
            if (!wants[i].equals(gots[i])) {
                return ": \"" + gots[i] + "\", due is \"" + wants[i] + "\"";
            }
        }
        return ": one tells more than the other";
    }

    /** The call throws this very exception, and changes nothing. */
    static void refused(Class<? extends RuntimeException> want, Scenes.Scene scene, Call call) {
        Checks.throwsIt(where, want, () -> call.on(scene.made()));
        changesNothing(scene, call);
    }

    /** The call does not throw, and changes nothing. */
    static void asks(Scenes.Scene scene, Call call) {
        goes(scene, call);
        changesNothing(scene, call);
    }

    static void goes(Scenes.Scene scene, Call call) {
        try {
            call.on(scene.made());
        } catch (RuntimeException e) {
            Checks.fail(where + " threw " + e);
        }
    }

    private static void changesNothing(Scenes.Scene scene, Call call) {
        String before = UNTOUCHED.computeIfAbsent(scene, s -> Look.behind(s, b -> 0));
        due("the call changes something", before, Look.behind(scene, call));
    }

    /** Both limits are allowed; one below, one above, and numbers that wrap around are refused. */
    static void limits(Class<? extends RuntimeException> want, Scenes.Scene scene, int low, int high, CallWith call) {
        goes(scene, b -> call.on(b, low));
        goes(scene, b -> call.on(b, high));
        refused(want, scene, b -> call.on(b, low - 1));
        refused(want, scene, b -> call.on(b, high + 1));
        for (int number : WRAPPING) {
            refused(want, scene, b -> call.on(b, number));
        }
    }

    /** The first part and the last one exist; the numbers around them do not, nor those around the outside's. */
    static void partLimits(Scenes.Scene scene, CallWith call) {
        int parts = scene.made().about(0);
        if (parts > 0) {
            limits(INDEX, scene, 0, parts - 1, call);
        }
        for (int p : new int[] {parts, 9, 10, 11, 12, NONE, OWN, NONE + 1}) {
            if (p >= parts || p < 0) {
                refused(INDEX, scene, b -> call.on(b, p));
            }
        }
    }

    /** Callers of a part that cannot be: the part itself, smaller ones, those that do not exist, numbers beside NONE and OWN. */
    static int[] noCallers(int p, int parts) {
        int[] near = {-1, p - 1, p, parts, 9, 10, 11, 12, 13, NONE + 1, OWN - 1};
        int[] all = new int[near.length + WRAPPING.length];
        int many = 0;
        for (int caller : near) {
            if (caller <= p || caller >= parts) {
                all[many++] = caller;
            }
        }
        for (int caller : WRAPPING) {
            all[many++] = caller;
        }
        return java.util.Arrays.copyOf(all, many);
    }

    static int[] numbersOf(BlameChains b, int k) {
        int[] all = new int[6];
        for (int what = 0; what < all.length; what++) {
            all[what] = b.blame(k, what);
        }
        return all;
    }

    /** The blame that arose as the k-th last: kind, caller, part, number, height, and whether it was caught. */
    static void blameDue(String what, BlameChains b, int k, int... want) {
        int[] got = numbersOf(b, k);
        for (int i = 0; i < want.length; i++) {
            due(what + ", number " + i + " of blame " + k, want[i], got[i]);
        }
    }
}

/**
 * All that can be told of an object behind a call: the state, the text, the states that are remembered and those that
 * are saved. It is drawn from fresh objects, each made anew, since the document promises nothing beyond 512 calls.
 */
final class Look {
    private static final int NONE = BlameChains.NONE;
    private static final int OWN = NONE - 1;

    private Look() {
    }

    static String behind(Scenes.Scene scene, Sentences.Call call) {
        StringBuilder seen = new StringBuilder();
        BlameChains now = made(scene, call);
        state(now, seen);
        seen.append("error position ").append(now.errorPosition()).append('\n');
        seen.append("text ").append(now.clearText()).append('\n');
        for (int back = 1; back <= 15; back++) {
            undone(made(scene, call), back, seen);
        }
        for (int slot = 0; slot <= 1; slot++) {
            restored(made(scene, call), slot, seen);
        }
        loaded(made(scene, call), seen);
        return seen.toString();
    }

    static String state(BlameChains b) {
        StringBuilder seen = new StringBuilder();
        state(b, seen);
        return seen.toString();
    }

    private static BlameChains made(Scenes.Scene scene, Sentences.Call call) {
        BlameChains b = scene.made();
        try {
            call.on(b);
        } catch (IllegalArgumentException | IllegalStateException | IndexOutOfBoundsException e) {
            return b;
        }
        return b;
    }

    private static void undone(BlameChains b, int back, StringBuilder seen) {
        try {
            for (int i = 1; i < back; i++) {
                b.undo();
            }
            seen.append("undo ").append(back).append(" leaves ").append(b.undo()).append('\n');
            state(b, seen);
        } catch (IllegalStateException e) {
            seen.append("no undo ").append(back).append('\n');
        }
    }

    private static void restored(BlameChains b, int slot, StringBuilder seen) {
        try {
            seen.append("restore ").append(slot).append(" answers ").append(b.restore(slot)).append('\n');
            state(b, seen);
        } catch (IllegalStateException e) {
            seen.append("no restore ").append(slot).append('\n');
        }
    }

    private static void loaded(BlameChains b, StringBuilder seen) {
        try {
            seen.append("load answers ").append(b.load()).append('\n');
            state(b, seen);
        } catch (IllegalStateException e) {
            seen.append("no load\n");
        }
    }

    private static void state(BlameChains b, StringBuilder seen) {
        for (int what = 0; what <= 8; what++) {
            seen.append("about ").append(what).append(" = ").append(b.about(what)).append('\n');
        }
        int parts = b.about(0);
        for (int p = 0; p < parts; p++) {
            for (int what = 0; what <= 8; what++) {
                seen.append("part ").append(p).append(' ').append(what).append(" = ").append(b.part(p, what)).append('\n');
            }
            contract(b, OWN, p, seen);
            contract(b, NONE, p, seen);
            for (int caller = p + 1; caller < parts; caller++) {
                contract(b, caller, p, seen);
            }
        }
        for (int k = 0; k <= 9 && b.blame(k, 0) != NONE; k++) {
            seen.append("blame ").append(k).append(" =");
            for (int what = 0; what <= 5; what++) {
                seen.append(' ').append(b.blame(k, what));
            }
            seen.append('\n');
        }
    }

    private static void contract(BlameChains b, int caller, int p, StringBuilder seen) {
        if (Scenes.hasContract(b, caller, p)) {
            seen.append("contract ").append(caller).append(' ').append(p).append(" =");
            for (int what = 0; what <= 3; what++) {
                seen.append(' ').append(b.contract(caller, p, what));
            }
            seen.append('\n');
        }
    }
}

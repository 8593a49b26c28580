/** Objects for the tests of single sentences. Each is made by a fixed run of calls, so that it can be made again. */
final class Scenes {
    interface Scene {
        BlameChains made();
    }

    private static final int NONE = BlameChains.NONE;
    private static final int OWN = NONE - 1;

    private Scenes() {
    }

    static BlameChains write(BlameChains b, String text) {
        b.clearText();
        for (int i = 0; i < text.length(); i++) {
            b.append(text.charAt(i));
        }
        return b;
    }

    static BlameChains text(String text) {
        return write(new BlameChains(), text);
    }

    /** As from load(): nothing is remembered, nothing is saved. */
    static BlameChains loaded(String text) {
        BlameChains b = text(text);
        b.load();
        return b;
    }

    static BlameChains empty() {
        return new BlameChains();
    }

    /** So many parts that give what they take, not chained. */
    static BlameChains parts(int many) {
        BlameChains b = new BlameChains();
        for (int p = 0; p < many; p++) {
            b.add(1, 0);
        }
        return b;
    }

    static BlameChains ten() {
        return parts(10);
    }

    /** So many parts that give what they take, each one chained to the one before it. */
    static BlameChains row(int many) {
        BlameChains b = parts(many);
        for (int p = 1; p < many; p++) {
            b.chain(p, p - 1, 0);
        }
        return b;
    }

    /** Part 0: 2z+1, ask -10..10, give -15..15; part 1: 3z-4, chained to 0 with 2; part 2: -z, chained to 1 with -1. */
    static BlameChains three() {
        BlameChains b = new BlameChains();
        b.add(2, 1);
        b.own(0, -10, 10, -15, 15);
        b.add(3, -4);
        b.chain(1, 0, 2);
        b.add(-1, 0);
        b.chain(2, 1, -1);
        return b;
    }

    /** Three parts with some of all that there is: contracts, nets, blames of all kinds, a text, saved and remembered states. */
    static BlameChains rich() {
        BlameChains b = three();
        write(b, "Cn+01+00k+05");
        b.save(0);
        b.link(1, 0, -9, 12, -20, 14);
        b.link(NONE, 2, -500, 500, -9999, 9999);
        b.call(2, 5);
        b.net(2, 7);
        b.call(2, 50);
        b.call(1, 50);
        b.call(2, 501);
        b.call(0, 4);
        b.save(1);
        b.call(0, 3);
        b.own(2, -600, 600, -700, 700);
        return b;
    }

    /** As rich, and few states remembered: so it is seen whether one more is. */
    static BlameChains richAnew() {
        BlameChains b = rich();
        b.restore(1);
        b.net(1, 9);
        b.own(1, -300, 300, -400, 400);
        return b;
    }

    /** Ten parts in a row, each with a contract of its own, and a text of 120 characters. */
    static BlameChains full() {
        BlameChains b = row(10);
        for (int p = 0; p < 10; p++) {
            b.own(p, -900 - p, 900 + p, -9999, 9999);
        }
        write(b, fullPlan());
        b.call(9, 901);
        return b;
    }

    /** 1 + 17 * 7 = 120 characters. */
    static String fullPlan() {
        return "C" + "n+01+00".repeat(17);
    }

    /** Part 0 of the object asks for one number alone. */
    static BlameChains asking(BlameChains b, int number) {
        b.own(0, number, number, -9999, 9999);
        return b;
    }

    static boolean hasContract(BlameChains b, int caller, int p) {
        try {
            b.contract(caller, p, 0);
            return true;
        } catch (IndexOutOfBoundsException e) {
            return false;
        }
    }

    static boolean hasOwn(BlameChains b, int p) {
        return hasContract(b, OWN, p);
    }
}

/** Promises 6, 7 and 9: what there is. (Promise 8 is with the contracts.) */
final class TellingSentences extends Sentences {
    private TellingSentences() {
    }

    static void all() {
        aboutArguments();
        aboutNumbers();
        aboutBeyondTenBlames();
        partArguments();
        partNumbers();
        partNone();
        partCounts();
        chainOfPart();
        blameArguments();
        blameNumbers();
        notSoManyBlames();
        elevenBlames();
    }

    private static void aboutArguments() {
        sentence("Promise 6", "what: 0: the parts; 1: the contracts of parts; 2: those of links; 3: the calls so far, of parts too;"
            + " 4: the calls from outside so far; 5: how often blame arose so far; 6: how often it came to the outside so far;"
            + " 7: how often it was caught so far; 8: the kind of the blame that arose last, 0 if none did");
        sentence("Promise 6", "Throws IllegalArgumentException if what is not 0 to 8");
        limits(ARGUMENT, RICH, 0, 8, (b, what) -> b.about(what));
        limits(ARGUMENT, Scenes::empty, 0, 8, (b, what) -> b.about(what));
    }

    private static void aboutNumbers() {
        sentence("Promise 6", "Returns that number.");
        int[] due = {3, 2, 2, 11, 6, 3, 2, 1, 1};
        for (int what = 0; what <= 8; what++) {
            int number = what;
            due("of rich, " + what, due[what], Scenes.rich().about(what));
            due("of a new object, " + what, 0, Scenes.empty().about(what));
            asks(RICH, b -> b.about(number));
        }
        sentence("Promise 6", "8: the kind of the blame that arose last, 0 if none did");
        BlameChains b = Scenes.parts(1);
        b.call(0, 5);
        due("calls without blame", 0, b.about(8));
        b.own(0, -9, 9, -5, 5);
        b.call(0, 10);
        due("1", 1, b.about(8));
        b.call(0, 6);
        due("2", 2, b.about(8));
        b.link(NONE, 0, -999, 999, -9, 9);
        b.call(0, 10);
        due("3", 3, b.about(8));
        b.call(0, 0);
        due("a call without blame does not change it", 3, b.about(8));
        b.undo();
        b.undo();
        due("undone", 2, b.about(8));
        for (int i = 0; i < 5; i++) {
            b.undo();
        }
        due("before all of them", 0, b.about(8));
    }

    private static void aboutBeyondTenBlames() {
        sentence("Promise 6", "5: how often blame arose so far;");
        BlameChains b = Scenes.asking(Scenes.row(2), 0);
        for (int i = 1; i <= 25; i++) {
            b.call(1, i);
            due("arose", i, b.about(5));
            due("came to the outside", i, b.about(6));
        }
        b.net(1, 3);
        for (int i = 1; i <= 25; i++) {
            b.call(1, i);
            due("arose, caught", 25 + i, b.about(5));
            due("caught", i, b.about(7));
        }
        due("came to the outside no more", 25, b.about(6));
        due("calls", 100, b.about(3));
        due("calls from outside", 50, b.about(4));
    }

    private static void partArguments() {
        sentence("Promise 7", "p: part");
        sentence("Promise 7", "Throws IndexOutOfBoundsException if there is no such part");
        partLimits(RICH, (b, p) -> b.part(p, 0));
        partLimits(RICH, (b, p) -> b.part(p, 8));
        partLimits(Scenes::full, (b, p) -> b.part(p, 8));
        refused(INDEX, Scenes::empty, b -> b.part(0, 0));
        refused(INDEX, RICH, b -> b.part(3, 9));
        refused(INDEX, RICH, b -> b.part(-1, -1));
        sentence("Promise 7", "what: 0: its factor; 1: more; 2: the part to which it is chained, NONE if it is not; 3: the step, NONE"
            + " if it is not chained; 4: its net, NONE without one; 5: how often it was called so far; 6: how often it was blamed so"
            + " far; 7: how often it caught blame so far; 8: how many parts there are in its chain, itself and all that are called"
            + " in turn");
        sentence("Promise 7", "Throws IllegalArgumentException if what is not 0 to 8");
        limits(ARGUMENT, RICH, 0, 8, (b, what) -> b.part(0, what));
        limits(ARGUMENT, RICH, 0, 8, (b, what) -> b.part(2, what));
    }

    private static void partNumbers() {
        sentence("Promise 7", "Returns that number.");
        int[][] due = {{2, 1, NONE, NONE, NONE, 5, 0, 0, 1}, {3, -4, 0, 2, NONE, 3, 2, 0, 2}, {-1, 0, 1, -1, 7, 3, 0, 1, 3}};
        for (int p = 0; p < 3; p++) {
            for (int what = 0; what <= 8; what++) {
                int part = p;
                int number = what;
                due("part " + p + ", " + what, due[p][what], Scenes.rich().part(p, what));
                asks(RICH, b -> b.part(part, number));
            }
        }
    }

    private static void partNone() {
        sentence("Promise 7", "2: the part to which it is chained, NONE if it is not; 3: the step, NONE if it is not chained;"
            + " 4: its net, NONE without one;");
        BlameChains b = Scenes.parts(2);
        for (int what = 2; what <= 4; what++) {
            due("a new part, " + what, NONE, b.part(1, what));
        }
        b.chain(1, 0, 0);
        b.net(1, 0);
        for (int what = 2; what <= 4; what++) {
            due("0 is not NONE, " + what, 0, b.part(1, what));
        }
        b.chain(1, NONE, 5);
        b.net(1, NONE);
        for (int what = 2; what <= 4; what++) {
            due("not any more, " + what, NONE, b.part(1, what));
        }
    }

    private static void partCounts() {
        sentence("Promise 7", "5: how often it was called so far; 6: how often it was blamed so far; 7: how often it caught blame so far;");
        BlameChains b = Scenes.row(2);
        for (int what = 5; what <= 7; what++) {
            due("a new part, " + what, 0, b.part(1, what));
        }
        b.own(0, -9, 9, 0, 0);
        b.net(1, 1);
        b.call(1, 1);
        b.call(1, 10);
        b.call(0, 2);
        b.call(1, 0);
        int[] low = {4, 2, 0};
        int[] high = {3, 1, 2};
        for (int what = 5; what <= 7; what++) {
            due("part 0, " + what, low[what - 5], b.part(0, what));
            due("part 1, " + what, high[what - 5], b.part(1, what));
        }
    }

    private static void chainOfPart() {
        sentence("Promise 7", "8: how many parts there are in its chain, itself and all that are called in turn");
        BlameChains b = Scenes.row(10);
        for (int p = 0; p < 10; p++) {
            due("part " + p, p + 1, b.part(p, 8));
        }
        b.chain(5, NONE, 0);
        due("the chain ends", 1, b.part(5, 8));
        due("above it", 5, b.part(9, 8));
        b.chain(9, 0, 0);
        due("to the first one", 2, b.part(9, 8));
    }

    private static void blameArguments() {
        sentence("Promise 9", "k: which one, 0 the one that arose last, 1 the one before it, and so on up to 9");
        sentence("Promise 9", "Throws IllegalArgumentException if k is not 0 to 9, or what is not 0 to 5");
        limits(ARGUMENT, RICH, 0, 9, (b, k) -> b.blame(k, 0));
        limits(ARGUMENT, RICH, 0, 9, (b, k) -> b.blame(k, 5));
        limits(ARGUMENT, Scenes::empty, 0, 9, (b, k) -> b.blame(k, 0));
        sentence("Promise 9", "what: 0: its kind; 1: the caller (NONE for the outside); 2: the part; 3: the number that was not as"
            + " promised; 4: its height; 5: 1 if it was caught, otherwise 0");
        limits(ARGUMENT, RICH, 0, 5, (b, what) -> b.blame(0, what));
        limits(ARGUMENT, RICH, 0, 5, (b, what) -> b.blame(9, what));
        limits(ARGUMENT, Scenes::empty, 0, 5, (b, what) -> b.blame(9, what));
        refused(ARGUMENT, RICH, b -> b.blame(10, 6));
        refused(ARGUMENT, RICH, b -> b.blame(-1, -1));
    }

    private static void blameNumbers() {
        sentence("Promise 9", "Returns that number; NONE if there were not so many.");
        BlameChains b = Scenes.rich();
        blameDue("rich", b, 0, 1, NONE, 2, 501, 1, 0);
        blameDue("rich", b, 1, 1, 1, 0, 52, 2, 0);
        blameDue("rich", b, 2, 1, 1, 0, 51, 2, 1);
        for (int what = 0; what <= 5; what++) {
            int number = what;
            due("not so many", NONE, b.blame(3, what));
            due("not so many", NONE, b.blame(9, what));
            asks(RICH, c -> c.blame(1, number));
        }
    }

    private static void notSoManyBlames() {
        sentence("Promise 9", "NONE if there were not so many.");
        BlameChains b = Scenes.asking(Scenes.parts(1), 0);
        for (int many = 0; many <= 10; many++) {
            for (int k = 0; k <= 9; k++) {
                due("number " + k + " of " + many, k < many ? many - k : NONE, b.blame(k, 3));
            }
            b.call(0, many + 1);
        }
    }

    private static void elevenBlames() {
        sentence("Promise 9", "0 the one that arose last, 1 the one before it, and so on up to 9");
        BlameChains b = Scenes.asking(Scenes.parts(1), 0);
        for (int i = 1; i <= 12; i++) {
            b.call(0, i);
        }
        for (int k = 0; k <= 9; k++) {
            blameDue("of twelve", b, k, 1, NONE, 0, 12 - k, 1, 0);
        }
        b.undo();
        b.undo();
        due("the first one is told again", 1, b.blame(9, 3));
        b.undo();
        due("nine are left", NONE, b.blame(9, 3));
        due("the ninth", 1, b.blame(8, 3));
    }
}

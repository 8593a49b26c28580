/** Promises 18, 21, 22 and 23, and that all questions change nothing. */
final class QuestionSentences extends Sentences {
    private static final Scenes.Scene FULL = Scenes::full;

    private QuestionSentences() {
    }

    static void all() {
        changeNothing();
        wouldArguments();
        wouldNumbers();
        wouldHeights();
        wouldCaught();
        firstBadArguments();
        firstBadAnswers();
        firstBadAbove999();
        mostBlamedArguments();
        mostBlamedAnswers();
        mostBlamedAmongSeveral();
        mostBlamedSeveralTimes();
        mostBlamedNumbers();
        reachArguments();
        reachAnswers();
        reach200();
    }

    private static void changeNothing() {
        sentence("EXCEPTIONS", "what would be; these and all following methods up to the save slots change nothing.");
        Call[] questions = {b -> b.would(2, 50, 0), b -> b.would(1, 50, 1), b -> b.would(0, 11, 2), b -> b.would(2, 600, 3),
            b -> b.would(2, 50, 4), b -> b.stands(OWN, 0, 1, 0), b -> b.holes(), b -> b.firstBad(2, -999, 200),
            b -> b.firstBad(2, 400, 200), b -> b.mostBlamed(2, 400, 200), b -> b.mostBlamed(1, -100, 200), b -> b.reach(2, 0, true),
            b -> b.reach(2, 0, false), b -> b.runScript(3, 125502155031000L), b -> b.runScript(3, 410075000061000L),
            b -> b.runScript(1, 92500), b -> b.simulate(1, 99), b -> b.simulate(Long.MIN_VALUE, 1)};
        for (Call question : questions) {
            asks(RICH, question);
            asks(ANEW, question);
        }
    }

    private static void wouldArguments() {
        sentence("Promise 18", "p: part");
        sentence("Promise 18", "Throws IndexOutOfBoundsException if there is no such part");
        partLimits(RICH, (b, p) -> b.would(p, 0, 0));
        partLimits(FULL, (b, p) -> b.would(p, 0, 4));
        refused(INDEX, Scenes::empty, b -> b.would(0, 0, 0));
        refused(INDEX, RICH, b -> b.would(3, 1000, 0));
        refused(INDEX, RICH, b -> b.would(-1, 0, 5));
        sentence("Promise 18", "x: -999 to 999");
        sentence("Promise 18", "Throws IllegalArgumentException if x or what is out of range");
        for (int what = 0; what <= 4; what++) {
            int number = what;
            limits(ARGUMENT, RICH, -999, 999, (b, x) -> b.would(1, x, number));
        }
        sentence("Promise 18", "what: 0: the number that it would give, NONE if blame came to the outside; 1: the kind of the blame that"
            + " would come to the outside, 0 if none would; 2: the part that would be blamed by that, NONE for the outside, for a link,"
            + " or if none would; 3: its height, 0 if none would; 4: how often blame would be caught on the way");
        limits(ARGUMENT, RICH, 0, 4, (b, what) -> b.would(0, 0, what));
        limits(ARGUMENT, RICH, 0, 4, (b, what) -> b.would(2, 999, what));
        refused(ARGUMENT, RICH, b -> b.would(0, 1000, 5));
    }

    private static void wouldDue(String what, BlameChains b, int p, int x, int... due) {
        for (int number = 0; number <= 4; number++) {
            due(what + ", " + number, due[number], b.would(p, x, number));
        }
    }

    private static void wouldNumbers() {
        sentence("Promise 18", "Returns that number.");
        BlameChains b = Scenes.three();
        wouldDue("none", b, 2, 6, -41, 0, NONE, 0, 0);
        wouldDue("the part", b, 2, 7, NONE, 2, 0, 3, 0);
        wouldDue("the caller", b, 2, 10, NONE, 1, 1, 3, 0);
        wouldDue("the outside", b, 0, 11, NONE, 1, NONE, 1, 0);
        wouldDue("999", b, 0, 999, NONE, 1, NONE, 1, 0);
        wouldDue("-999", b, 0, -999, NONE, 1, NONE, 1, 0);
        b.link(1, 0, -99, 99, -99, 99);
        wouldDue("the link", b, 2, 10, NONE, 3, NONE, 3, 0);
        b.net(2, 0);
        wouldDue("caught", b, 2, 10, 0, 0, NONE, 0, 1);
        b.own(2, -999, 999, 1, 99);
        wouldDue("caught, and another one", b, 2, 10, NONE, 2, 2, 1, 1);
        b.call(2, 10);
        b.call(2, 10);
        wouldDue("what was before does not count", b, 2, 10, NONE, 2, 2, 1, 1);
        b.own(2, -999, 999, -99, 99);
        wouldDue("nor an earlier blame if none would come", b, 2, 0, -5, 0, NONE, 0, 0);
        BlameChains low = Scenes.parts(1);
        low.own(0, -9999, 9999, 0, 0);
        wouldDue("part 0 is not none", low, 0, 1, NONE, 2, 0, 1, 0);
        wouldDue("a number 0 is not none", low, 0, 0, 0, 0, NONE, 0, 0);
    }

    private static void wouldHeights() {
        sentence("Promise 18", "3: its height, 0 if none would;");
        BlameChains b = Scenes.asking(Scenes.row(10), 0);
        for (int p = 0; p < 10; p++) {
            due("from part " + p, p + 1, b.would(p, 1, 3));
            due("without blame", 0, b.would(p, 0, 3));
        }
        b.net(5, 0);
        due("caught", 0, b.would(9, 1, 3));
        due("below the net", 5, b.would(4, 1, 3));
    }

    /** Each part but the first one catches blame with a net that is not in its own give, so it is blamed in its turn. */
    private static BlameChains netsThatBreak() {
        BlameChains b = Scenes.row(10);
        for (int p = 0; p < 10; p++) {
            b.own(p, -9999, 9999, 50, 50);
            b.net(p, p);
        }
        return b;
    }

    private static void wouldCaught() {
        sentence("Promise 18", "4: how often blame would be caught on the way");
        BlameChains b = netsThatBreak();
        for (int p = 0; p < 10; p++) {
            wouldDue("from part " + p, b, p, 1, NONE, 2, p, 1, p);
        }
        due("none if all goes well", 0, b.would(9, 50, 4));
        b.net(9, 50);
        wouldDue("the last one catches well", b, 9, 1, 50, 0, NONE, 0, 9);
        b.call(9, 1);
        wouldDue("what was caught before does not count", b, 9, 1, 50, 0, NONE, 0, 9);
    }

    private static void firstBadArguments() {
        sentence("Promise 21", "p: part");
        sentence("Promise 21", "Throws IndexOutOfBoundsException if there is no such part");
        partLimits(RICH, (b, p) -> b.firstBad(p, 0, 1));
        partLimits(FULL, (b, p) -> b.firstBad(p, 0, 200));
        refused(INDEX, Scenes::empty, b -> b.firstBad(0, 0, 1));
        refused(INDEX, RICH, b -> b.firstBad(3, 1000, 1));
        refused(INDEX, RICH, b -> b.firstBad(-1, 0, 0));
        sentence("Promise 21", "low: -999 to 999");
        sentence("Promise 21", "many: 1 to 200");
        sentence("Promise 21", "Throws IllegalArgumentException if low or many is out of range");
        limits(ARGUMENT, RICH, -999, 999, (b, low) -> b.firstBad(1, low, 1));
        limits(ARGUMENT, RICH, -999, 999, (b, low) -> b.firstBad(1, low, 200));
        limits(ARGUMENT, RICH, 1, 200, (b, many) -> b.firstBad(1, 0, many));
        limits(ARGUMENT, RICH, 1, 200, (b, many) -> b.firstBad(1, 999, many));
        refused(ARGUMENT, RICH, b -> b.firstBad(0, 1000, 201));
    }

    private static void firstBadAnswers() {
        sentence("Promise 21", "NONE if there is none.");
        BlameChains b = Scenes.parts(1);
        due("without contracts", NONE, b.firstBad(0, -999, 200));
        b.own(0, -10, 10, -9999, 9999);
        due("the first number", -11, b.firstBad(0, -11, 1));
        due("not the next one", NONE, b.firstBad(0, -10, 1));
        due("the last number", NONE, b.firstBad(0, 10, 1));
        due("behind it", 11, b.firstBad(0, 11, 1));
        due("not among twenty-one", NONE, b.firstBad(0, -10, 21));
        due("among twenty-two", 11, b.firstBad(0, -10, 22));
        due("the smallest one of several", 11, b.firstBad(0, -10, 200));
        due("the very first of several", -200, b.firstBad(0, -200, 200));
        due("from -999 on", -999, b.firstBad(0, -999, 1));
        b.own(0, -9999, -800, -9999, 9999);
        due("the last one of 200", -799, b.firstBad(0, -998, 200));
        due("not of 199", NONE, b.firstBad(0, -998, 199));
        due("one beyond 200", NONE, b.firstBad(0, -999, 200));
        BlameChains row = Scenes.asking(Scenes.row(2), 5);
        row.net(1, 0);
        due("caught is not bad", NONE, row.firstBad(1, -100, 200));
        due("without the net below it", -100, row.firstBad(0, -100, 200));
        row.own(1, -9999, 9999, 1, 99);
        due("caught, and another one", 0, row.firstBad(1, 0, 5));
    }

    private static void firstBadAbove999() {
        sentence("Promise 21",
            "Returns the smallest of so many numbers from low on with which call() would bring blame to the outside (also above 999);");
        BlameChains b = Scenes.parts(1);
        b.own(0, -9999, 999, -9999, 9999);
        due("1000", 1000, b.firstBad(0, 999, 2));
        due("999 alone", NONE, b.firstBad(0, 999, 1));
        b.own(0, -9999, 1197, -9999, 9999);
        due("1198, the last one", 1198, b.firstBad(0, 999, 200));
        due("one less", NONE, b.firstBad(0, 999, 199));
        b.own(0, -9999, 1198, -9999, 9999);
        due("1199 is one too far", NONE, b.firstBad(0, 999, 200));
    }

    private static void mostBlamedArguments() {
        sentence("Promise 22", "p: part");
        sentence("Promise 22", "Throws IndexOutOfBoundsException if there is no such part");
        partLimits(RICH, (b, p) -> b.mostBlamed(p, 0, 1));
        partLimits(FULL, (b, p) -> b.mostBlamed(p, 0, 200));
        refused(INDEX, Scenes::empty, b -> b.mostBlamed(0, 0, 1));
        refused(INDEX, RICH, b -> b.mostBlamed(3, 1000, 1));
        refused(INDEX, RICH, b -> b.mostBlamed(-1, 0, 0));
        sentence("Promise 22", "low: -999 to 999");
        sentence("Promise 22", "many: 1 to 200");
        sentence("Promise 22", "Throws IllegalArgumentException if low or many is out of range");
        limits(ARGUMENT, RICH, -999, 999, (b, low) -> b.mostBlamed(1, low, 1));
        limits(ARGUMENT, RICH, -999, 999, (b, low) -> b.mostBlamed(1, low, 200));
        limits(ARGUMENT, RICH, 1, 200, (b, many) -> b.mostBlamed(1, 0, many));
        limits(ARGUMENT, RICH, 1, 200, (b, many) -> b.mostBlamed(1, 999, many));
        refused(ARGUMENT, RICH, b -> b.mostBlamed(0, 1000, 201));
    }

    private static void mostBlamedAnswers() {
        sentence("Promise 22", "NONE if none would be blamed.");
        BlameChains b = Scenes.parts(1);
        due("without contracts", NONE, b.mostBlamed(0, -999, 200));
        b.own(0, 0, 0, -9999, 9999);
        due("the outside does not count", NONE, b.mostBlamed(0, 1, 200));
        b.link(NONE, 0, -9999, 9999, -9999, 9999);
        due("a link does not count", NONE, b.mostBlamed(0, 1, 200));
        b.own(0, -9999, 9999, -9999, 9999);
        b.link(NONE, 0, -9999, 9999, 0, 0);
        due("a link's give does not count either", NONE, b.mostBlamed(0, 1, 200));
        b.drop(OWN, 0);
        due("the part counts without a contract of its own", 0, b.mostBlamed(0, 1, 200));
        b.call(0, 5);
        b.call(0, 6);
        b.link(NONE, 0, -9999, 9999, -9999, 9999);
        due("what was before does not count", NONE, b.mostBlamed(0, 1, 200));
        sentence("Promise 22", "(also by blame that is caught, and several times in one call; the outside and links do not count),");
        BlameChains row = Scenes.asking(Scenes.row(2), 5);
        row.net(1, 0);
        due("caught", 1, row.mostBlamed(1, 6, 1));
        due("no part where the outside calls", NONE, row.mostBlamed(0, 6, 1));
    }

    private static void mostBlamedAmongSeveral() {
        sentence("Promise 22", "among several the lowest one;");
        BlameChains b = netsThatBreak();
        due("all ten once in each call", 0, b.mostBlamed(9, 100, 200));
        due("all ten once in one call", 0, b.mostBlamed(9, 100, 1));
        b.own(0, -9999, 9999, -9999, 9999);
        b.own(1, -9999, 9999, -9999, 9999);
        due("part 2 is the lowest one then", 2, b.mostBlamed(9, 100, 200));
        b.link(9, 8, -9999, 100, -9999, 9999);
        due("100 goes over the link to part 8", 2, b.mostBlamed(9, 100, 1));
        due("101 does not: part 9 is blamed twice", 9, b.mostBlamed(9, 101, 1));
        due("both", 9, b.mostBlamed(9, 100, 2));
    }

    private static void mostBlamedSeveralTimes() {
        sentence("Promise 22", "several times in one call;");
        BlameChains b = Scenes.row(3);
        b.link(1, 0, 0, 0, 0, 0);
        b.net(1, 9);
        b.own(1, -9999, 9999, 0, 0);
        due("part 1 twice: as the caller, and for its give", 1, b.mostBlamed(1, 5, 1));
        b.own(0, -9999, 9999, 7, 7);
        due("still twice", 1, b.mostBlamed(1, 5, 1));
        b.link(1, 0, -9999, 9999, 0, 0);
        due("part 0 once and part 1 once", 0, b.mostBlamed(1, 5, 1));
        b.link(2, 1, -9999, 5, -9999, 9999);
        b.net(2, 9);
        b.own(2, -9999, 9999, 0, 0);
        due("part 2 twice, but no call of part 1", 2, b.mostBlamed(2, 6, 1));
        due("part 2 once, part 1 once, part 0 once", 0, b.mostBlamed(2, 5, 1));
        due("part 2 three times, part 1 and part 0 once", 2, b.mostBlamed(2, 5, 2));
    }

    private static void mostBlamedNumbers() {
        sentence("Promise 22", "Returns the part that would be blamed most often, if p was called with each of so many numbers from low on");
        BlameChains b = Scenes.row(2);
        b.own(0, -9999, 9999, -9999, 999);
        due("1000 is not among one", NONE, b.mostBlamed(1, 999, 1));
        due("1000 is among two", 0, b.mostBlamed(1, 999, 2));
        b.own(0, -9999, 9999, -9999, 1197);
        due("1198 is the last one", 0, b.mostBlamed(1, 999, 200));
        due("not among 199", NONE, b.mostBlamed(1, 999, 199));
        b.own(0, -9999, 9999, -998, 9999);
        due("-999 is the first one", 0, b.mostBlamed(1, -999, 1));
        due("-998 is not", NONE, b.mostBlamed(1, -998, 200));
        b.own(0, -9999, 12, 10, 9999);
        due("0 to 9 for the give, 13 to 21 for the ask", 0, b.mostBlamed(1, 0, 22));
        due("as often", 0, b.mostBlamed(1, 0, 23));
        due("once more for the ask", 1, b.mostBlamed(1, 0, 24));
    }

    private static void reachArguments() {
        sentence("Promise 23", "p: part");
        sentence("Promise 23", "Throws IndexOutOfBoundsException if there is no such part");
        partLimits(RICH, (b, p) -> b.reach(p, 0, true));
        partLimits(FULL, (b, p) -> b.reach(p, 0, false));
        refused(INDEX, Scenes::empty, b -> b.reach(0, 0, true));
        refused(INDEX, RICH, b -> b.reach(3, 1000, true));
        refused(INDEX, RICH, b -> b.reach(-1, -1000, false));
        sentence("Promise 23", "x: -999 to 999");
        sentence("Promise 23", "Throws IllegalArgumentException if x is out of range");
        limits(ARGUMENT, RICH, -999, 999, (b, x) -> b.reach(1, x, true));
        limits(ARGUMENT, RICH, -999, 999, (b, x) -> b.reach(1, x, false));
        sentence("Promise 23", "high: whether the greatest such number is told, or the smallest one");
        BlameChains b = Scenes.parts(1);
        b.own(0, -3, 4, -9999, 9999);
        due("the greatest one", 4, b.reach(0, 0, true));
        due("the smallest one", -3, b.reach(0, 0, false));
    }

    private static void reachAnswers() {
        sentence("Promise 23", "NONE if x itself does.");
        BlameChains b = Scenes.parts(1);
        b.own(0, -3, 4, -9999, 9999);
        due("below", NONE, b.reach(0, -4, true));
        due("below, downwards", NONE, b.reach(0, -4, false));
        due("above", NONE, b.reach(0, 5, false));
        due("above, upwards", NONE, b.reach(0, 5, true));
        due("on the low bound, up", 4, b.reach(0, -3, true));
        due("on the low bound, down", -3, b.reach(0, -3, false));
        due("on the high bound, up", 4, b.reach(0, 4, true));
        due("on the high bound, down", -3, b.reach(0, 4, false));
        b.own(0, 7, 7, -9999, 9999);
        due("one number alone, up", 7, b.reach(0, 7, true));
        due("one number alone, down", 7, b.reach(0, 7, false));
        sentence("Promise 23", "so that all numbers from x to it (from it to x) would bring no blame to the outside;");
        BlameChains gap = Scenes.empty();
        gap.add(0, 0);
        gap.add(1, 0);
        gap.own(0, -9999, 10, -9999, 9999);
        gap.chain(1, 0, 0);
        due("up to the ask", 10, gap.reach(1, 0, true));
        gap.net(1, 0);
        due("caught goes well", 200, gap.reach(1, 0, true));
        gap.own(1, -9999, 30, -9999, 9999);
        due("up to the other ask", 30, gap.reach(1, 0, true));
    }

    private static void reach200() {
        sentence("Promise 23", "Returns the greatest (smallest) number, at most 200 away from x (also above 999, or below -999),");
        BlameChains b = Scenes.parts(1);
        due("200 up", 200, b.reach(0, 0, true));
        due("200 down", -200, b.reach(0, 0, false));
        due("above 999", 1199, b.reach(0, 999, true));
        due("below -999", -1199, b.reach(0, -999, false));
        int[] bounds = {199, 200, 201};
        for (int bound : bounds) {
            b.own(0, -bound, bound, -9999, 9999);
            due("up to " + bound, Math.min(200, bound), b.reach(0, 0, true));
            due("down to " + -bound, -Math.min(200, bound), b.reach(0, 0, false));
            b.own(0, -999 - bound, 999 + bound, -9999, 9999);
            due("above 999, to " + bound, 999 + Math.min(200, bound), b.reach(0, 999, true));
            due("below -999, to " + -bound, -999 - Math.min(200, bound), b.reach(0, -999, false));
        }
    }
}

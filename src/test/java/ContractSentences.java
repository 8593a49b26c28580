/** CONTRACTS and promises 8, 13, 14, 15, 19 and 20: contracts of parts and links, and which may stand for which. */
final class ContractSentences extends Sentences {
    private ContractSentences() {
    }

    static void all() {
        boundsBelongToThem();
        boundsOfOwn();
        boundsOfLinks();
        lowNotAboveHigh();
        callersOfLinks();
        allLinks();
        mayStandFor();
        tellingArguments();
        tellingAnswers();
        ownArguments();
        ownAnswers();
        linkArguments();
        linkAnswers();
        dropArguments();
        dropAnswers();
        standsArguments();
        standsAnswers();
        holes();
        holesOfAllLinks();
    }

    private static void boundsBelongToThem() {
        sentence("CONTRACTS", "(the bounds belong to them, and are from -9999 to 9999, the low one not above the high one).");
        BlameChains b = Scenes.parts(1);
        b.own(0, -3, 4, -9999, 9999);
        checkBelong(b, 0);
        b.own(0, -9999, 9999, -3, 4);
        checkBelong(b, 0);
        b.drop(OWN, 0);
        b.link(NONE, 0, -3, 4, -9999, 9999);
        checkBelong(b, 0);
        b.link(NONE, 0, -9999, 9999, -3, 4);
        checkBelong(b, 0);
        BlameChains row = Scenes.row(2);
        row.link(1, 0, -3, 4, -9999, 9999);
        checkBelong(row, 1);
        row.link(1, 0, -9999, 9999, -3, 4);
        checkBelong(row, 1);
        row.own(0, 5, 5, 5, 5);
        row.link(1, 0, 5, 5, 5, 5);
        due("a range of one number", 5, row.call(1, 5));
        due("below it", NONE, row.call(1, 4));
        due("above it", NONE, row.call(1, 6));
    }

    private static void checkBelong(BlameChains b, int p) {
        due("below the low bound", NONE, b.call(p, -4));
        due("the low bound", -3, b.call(p, -3));
        due("the high bound", 4, b.call(p, 4));
        due("above the high bound", NONE, b.call(p, 5));
    }

    private static void boundsOfOwn() {
        sentence("Promise 13", "Throws IllegalArgumentException if a bound is out of range, or a low one is above its high one");
        limits(ARGUMENT, RICH, -9999, 9999, (b, bound) -> b.own(0, bound, 9999, 0, 0));
        limits(ARGUMENT, RICH, -9999, 9999, (b, bound) -> b.own(0, -9999, bound, 0, 0));
        limits(ARGUMENT, RICH, -9999, 9999, (b, bound) -> b.own(0, 0, 0, bound, 9999));
        limits(ARGUMENT, RICH, -9999, 9999, (b, bound) -> b.own(0, 0, 0, -9999, bound));
        refused(ARGUMENT, RICH, b -> b.own(0, NONE, NONE, 0, 0));
        refused(ARGUMENT, RICH, b -> b.own(0, 0, 0, NONE, NONE));
        refused(ARGUMENT, ANEW, b -> b.own(1, 10000, 10000, 0, 0));
        refused(ARGUMENT, ANEW, b -> b.own(1, 0, 0, 10000, 10000));
    }

    private static void boundsOfLinks() {
        sentence("Promise 14",
            "Throws IllegalArgumentException if caller is neither, a bound is out of range, or a low one is above its high one");
        limits(ARGUMENT, RICH, -9999, 9999, (b, bound) -> b.link(1, 0, bound, 9999, 0, 0));
        limits(ARGUMENT, RICH, -9999, 9999, (b, bound) -> b.link(1, 0, -9999, bound, 0, 0));
        limits(ARGUMENT, RICH, -9999, 9999, (b, bound) -> b.link(NONE, 2, 0, 0, bound, 9999));
        limits(ARGUMENT, RICH, -9999, 9999, (b, bound) -> b.link(NONE, 2, 0, 0, -9999, bound));
        refused(ARGUMENT, ANEW, b -> b.link(NONE, 1, NONE, NONE, 0, 0));
        refused(ARGUMENT, ANEW, b -> b.link(2, 1, 0, 0, 10000, 10000));
    }

    private static void lowNotAboveHigh() {
        sentence("CONTRACTS", "the low one not above the high one).");
        for (int high : new int[] {-9999, -1, 0, 1, 9998}) {
            goes(ANEW, b -> b.own(0, high, high, high, high));
            goes(ANEW, b -> b.link(1, 0, high, high, high, high));
            refused(ARGUMENT, ANEW, b -> b.own(0, high + 1, high, 0, 0));
            refused(ARGUMENT, ANEW, b -> b.own(0, 0, 0, high + 1, high));
            refused(ARGUMENT, ANEW, b -> b.link(1, 0, high + 1, high, 0, 0));
            refused(ARGUMENT, ANEW, b -> b.link(NONE, 0, 0, 0, high + 1, high));
        }
        refused(ARGUMENT, ANEW, b -> b.own(0, 9999, -9999, 9999, -9999));
        refused(ARGUMENT, ANEW, b -> b.link(1, 0, 9999, -9999, 9999, -9999));
    }

    private static void callersOfLinks() {
        sentence("CONTRACTS", "the caller is a part with a greater number, or the outside, told as NONE.");
        sentence("Promise 14", "caller: a part with a greater number than p, or NONE for the outside");
        Scenes.Scene scene = () -> Scenes.parts(9);
        for (int p = 0; p < 9; p++) {
            int part = p;
            goes(scene, b -> b.link(NONE, part, 0, 0, 0, 0));
            for (int caller = p + 1; caller < 9; caller++) {
                int other = caller;
                goes(scene, b -> b.link(other, part, 0, 0, 0, 0));
            }
            for (int caller : noCallers(p, 9)) {
                refused(ARGUMENT, scene, b -> b.link(caller, part, 0, 0, 0, 0));
            }
            refused(ARGUMENT, scene, b -> b.link(OWN, part, 0, 0, 0, 0));
        }
        goes(Scenes::ten, b -> b.link(9, 8, 0, 0, 0, 0));
        refused(ARGUMENT, Scenes::ten, b -> b.link(10, 8, 0, 0, 0, 0));
    }

    /** Ten parts with all contracts that there can be: 10 of parts, 10 of links from the outside, 45 from parts. */
    private static BlameChains allContracts() {
        BlameChains b = Scenes.parts(10);
        for (int p = 0; p < 10; p++) {
            b.own(p, p, 2000, -p, 3000);
            b.link(NONE, p, 100 + p, 2000, -p, 3001);
            for (int caller = p + 1; caller < 10; caller++) {
                b.link(caller, p, 10 * caller + p, 2001, -caller, 3002);
            }
        }
        return b;
    }

    private static void allLinks() {
        sentence("CONTRACTS", "Each link from a caller to a part may have one:");
        BlameChains b = allContracts();
        due("contracts of parts", 10, b.about(1));
        due("contracts of links", 55, b.about(2));
        for (int p = 0; p < 10; p++) {
            due("own ask of " + p, p, b.contract(OWN, p, 0));
            due("outside's ask of " + p, 100 + p, b.contract(NONE, p, 0));
            for (int caller = p + 1; caller < 10; caller++) {
                due("ask from " + caller + " to " + p, 10 * caller + p, b.contract(caller, p, 0));
                due("give from " + caller + " to " + p, -caller, b.contract(caller, p, 2));
            }
        }
    }

    private static int standsFor(int[] one, int[] other) {
        BlameChains b = Scenes.parts(2);
        b.own(0, one[0], one[1], one[2], one[3]);
        b.link(NONE, 1, other[0], other[1], other[2], other[3]);
        return b.stands(OWN, 0, NONE, 1);
    }

    private static void mayStandFor() {
        sentence("CONTRACTS", "A contract may stand for another one if its ask has all numbers of the ask of that, and its give has"
            + " no number that the give of that does not have.");
        int[] that = {-5, 6, -7, 8};
        due("the same bounds", 1, standsFor(that, that));
        int[][] good = {{-1, 0, 0, 0}, {0, 1, 0, 0}, {0, 0, 1, 0}, {0, 0, 0, -1}, {-1, 1, 1, -1}, {-9000, 9000, 10, -5}};
        for (int[] more : good) {
            int[] one = {that[0] + more[0], that[1] + more[1], that[2] + more[2], that[3] + more[3]};
            due(java.util.Arrays.toString(one) + " for that", 1, standsFor(one, that));
            due("that for " + java.util.Arrays.toString(one), 0, standsFor(that, one));
        }
        int[][] bad = {{1, 0, 0, 0}, {0, -1, 0, 0}, {0, 0, -1, 0}, {0, 0, 0, 1}, {-1, 0, -1, 0}, {1, 0, 1, 0}, {0, 1, 0, 1},
            {0, -1, 0, -1}};
        for (int[] more : bad) {
            int[] one = {that[0] + more[0], that[1] + more[1], that[2] + more[2], that[3] + more[3]};
            due(java.util.Arrays.toString(one) + " not for that", 0, standsFor(one, that));
        }
        due("asks for none of that", 0, standsFor(new int[] {7, 9, -7, 8}, that));
        due("gives beside that", 0, standsFor(new int[] {-5, 6, 9, 12}, that));
        due("the widest ask, the narrowest give", 1, standsFor(new int[] {-9999, 9999, 0, 0}, new int[] {0, 0, -9999, 9999}));
        due("turned", 0, standsFor(new int[] {0, 0, -9999, 9999}, new int[] {-9999, 9999, 0, 0}));
    }

    private static void tellingArguments() {
        sentence("Promise 8", "caller: NONE - 1 for the part's own contract; NONE for the outside; or a part");
        due("own", -10, Scenes.rich().contract(OWN, 0, 0));
        due("the outside's", -500, Scenes.rich().contract(NONE, 2, 0));
        due("a part's", -9, Scenes.rich().contract(1, 0, 0));
        sentence("Promise 8", "Throws IndexOutOfBoundsException if there is no such part or contract");
        noContract((b, caller, p) -> b.contract(caller, p, 0));
        noContract((b, caller, p) -> b.contract(caller, p, 4));
        sentence("Promise 8", "p: part");
        partLimits(() -> allOwn(3), (b, p) -> b.contract(OWN, p, 0));
        partLimits(() -> allOwn(10), (b, p) -> b.contract(OWN, p, 3));
        sentence("Promise 8", "what: 0 and 1: the low and the high bound of the ask; 2 and 3: of the give");
        sentence("Promise 8", "Throws IllegalArgumentException if what is not 0 to 3");
        limits(ARGUMENT, RICH, 0, 3, (b, what) -> b.contract(OWN, 0, what));
        limits(ARGUMENT, RICH, 0, 3, (b, what) -> b.contract(NONE, 2, what));
        limits(ARGUMENT, RICH, 0, 3, (b, what) -> b.contract(1, 0, what));
    }

    private static void tellingAnswers() {
        sentence("Promise 8", "Returns that bound.");
        BlameChains b = Scenes.parts(2);
        b.own(1, -9999, 9998, -9998, 9999);
        int[] due = {-9999, 9998, -9998, 9999};
        b.link(1, 0, -1, 0, 1, 2);
        for (int what = 0; what <= 3; what++) {
            due("own " + what, due[what], b.contract(OWN, 1, what));
            due("the link's " + what, what - 1, b.contract(1, 0, what));
        }
        for (int what = 0; what <= 3; what++) {
            int number = what;
            asks(RICH, c -> c.contract(OWN, 0, number));
        }
    }

    interface ContractCall {
        int on(BlameChains b, int caller, int p);
    }

    /** Three parts, 2 chained to 1 and 1 to 0; contracts are on part 0, on part 2, from 1 to 0, and from the outside to 2. */
    private static void noContract(ContractCall call) {
        for (int p = 0; p < 3; p++) {
            int part = p;
            for (int caller : noCallers(p, 3)) {
                refused(INDEX, RICH, b -> call.on(b, caller, part));
            }
        }
        int[][] none = {{OWN, 1}, {NONE, 0}, {NONE, 1}, {2, 0}, {2, 1}, {0, 1}, {0, 2}, {1, 2}};
        for (int[] pair : none) {
            refused(INDEX, RICH, b -> call.on(b, pair[0], pair[1]));
        }
        for (int caller : new int[] {OWN, NONE, 0, 1, 2, 3}) {
            for (int p : new int[] {-1, 3, 9, 10, 11, NONE, OWN, 1 << 28, 1 << 29, 1 << 30, Integer.MIN_VALUE, Integer.MAX_VALUE}) {
                refused(INDEX, RICH, b -> call.on(b, caller, p));
            }
        }
        refused(INDEX, Scenes::empty, b -> call.on(b, OWN, 0));
        refused(INDEX, Scenes::empty, b -> call.on(b, NONE, 0));
    }

    private static BlameChains allOwn(int parts) {
        BlameChains b = Scenes.parts(parts);
        for (int p = 0; p < parts; p++) {
            b.own(p, -p, p, -p, p);
        }
        return b;
    }

    private static void ownArguments() {
        sentence("Promise 13", "p: part");
        partLimits(RICH, (b, p) -> b.own(p, 0, 0, 0, 0));
        partLimits(Scenes::full, (b, p) -> b.own(p, 0, 0, 0, 0));
        sentence("Promise 13", "Throws IndexOutOfBoundsException if there is no such part");
        refused(INDEX, Scenes::empty, b -> b.own(0, 0, 0, 0, 0));
        refused(INDEX, RICH, b -> b.own(3, 1, 0, 0, 0));
        refused(INDEX, RICH, b -> b.own(-1, 0, 0, 10000, 10000));
        sentence("Promise 13", "askLow: low bound of the ask");
        due("-9999", -9999, bound(0, -9999, 9999, -9999, 9999));
        sentence("Promise 13", "askHigh: high bound of the ask");
        due("9999", 9999, bound(1, -9999, 9999, -9999, 9998));
        sentence("Promise 13", "giveLow: low bound of the give");
        due("9999", 9999, bound(2, -9999, -9999, 9999, 9999));
        sentence("Promise 13", "giveHigh: high bound of the give");
        due("-9999", -9999, bound(3, 9999, 9999, -9999, -9999));
    }

    private static int bound(int what, int askLow, int askHigh, int giveLow, int giveHigh) {
        BlameChains b = Scenes.parts(2);
        b.own(1, askLow, askHigh, giveLow, giveHigh);
        b.link(1, 0, askLow, askHigh, giveLow, giveHigh);
        due("own and link tell the same", b.contract(OWN, 1, what), b.contract(1, 0, what));
        return b.contract(OWN, 1, what);
    }

    private static void ownAnswers() {
        sentence("Promise 13", "Returns the number of contracts of parts then.");
        BlameChains b = Scenes.parts(10);
        b.link(NONE, 0, 0, 0, 0, 0);
        for (int p = 9; p >= 0; p--) {
            due("part " + p, 10 - p, b.own(p, 0, 0, 0, 0));
        }
        sentence("Promise 13", "Gives a part its own contract, instead of the one that it had.");
        due("instead of one", 10, b.own(4, 1, 2, 3, 4));
        for (int what = 0; what <= 3; what++) {
            due("the new bound " + what, what + 1, b.contract(OWN, 4, what));
        }
        due("another one stays", 0, b.contract(OWN, 3, 1));
    }

    private static void linkArguments() {
        sentence("Promise 14", "p: part");
        partLimits(RICH, (b, p) -> b.link(NONE, p, 0, 0, 0, 0));
        partLimits(Scenes::full, (b, p) -> b.link(NONE, p, 0, 0, 0, 0));
        sentence("Promise 14", "Throws IndexOutOfBoundsException if there is no such part p");
        refused(INDEX, Scenes::empty, b -> b.link(NONE, 0, 0, 0, 0, 0));
        refused(INDEX, RICH, b -> b.link(3, 3, 0, 0, 0, 0));
        refused(INDEX, RICH, b -> b.link(OWN, 3, 1, 0, 0, 0));
        refused(INDEX, RICH, b -> b.link(2, -1, 0, 0, 10000, 0));
        sentence("Promise 14", "askLow: low bound of the ask");
        due("-9999", -9999, bound(0, -9999, -9999, 0, 0));
        sentence("Promise 14", "askHigh: high bound of the ask");
        due("9999", 9999, bound(1, 9998, 9999, 0, 0));
        sentence("Promise 14", "giveLow: low bound of the give");
        due("-9999", -9999, bound(2, 0, 0, -9999, -9998));
        sentence("Promise 14", "giveHigh: high bound of the give");
        due("9999", 9999, bound(3, 0, 0, 9999, 9999));
    }

    private static void linkAnswers() {
        sentence("Promise 14", "Returns the number of contracts of links then.");
        BlameChains b = Scenes.parts(10);
        b.own(0, 0, 0, 0, 0);
        int many = 0;
        for (int p = 0; p < 10; p++) {
            many++;
            due("from the outside to " + p, many, b.link(NONE, p, 0, 0, 0, 0));
            for (int caller = p + 1; caller < 10; caller++) {
                many++;
                due("from " + caller + " to " + p, many, b.link(caller, p, 0, 0, 0, 0));
            }
        }
        sentence("Promise 14", "Gives a link a contract, instead of the one that it had.");
        due("instead of one", 55, b.link(9, 8, 1, 2, 3, 4));
        due("instead of the outside's", 55, b.link(NONE, 9, 5, 6, 7, 8));
        for (int what = 0; what <= 3; what++) {
            due("the new bound " + what, what + 1, b.contract(9, 8, what));
            due("the outside's new bound " + what, what + 5, b.contract(NONE, 9, what));
        }
        due("another one stays", 0, b.contract(9, 7, 1));
    }

    private static void dropArguments() {
        sentence("Promise 15", "caller: as for contract()");
        goes(RICH, b -> b.drop(OWN, 0));
        goes(RICH, b -> b.drop(NONE, 2));
        goes(RICH, b -> b.drop(1, 0));
        sentence("Promise 15", "p: part");
        partLimits(() -> allOwn(3), (b, p) -> b.drop(OWN, p));
        partLimits(() -> allOwn(10), (b, p) -> b.drop(OWN, p));
        sentence("Promise 15", "Throws IndexOutOfBoundsException if there is no such part or contract");
        noContract((b, caller, p) -> b.drop(caller, p));
        Scenes.Scene dropped = () -> {
            BlameChains b = Scenes.rich();
            b.drop(OWN, 0);
            b.drop(1, 0);
            b.drop(NONE, 2);
            return b;
        };
        refused(INDEX, dropped, b -> b.drop(OWN, 0));
        refused(INDEX, dropped, b -> b.drop(1, 0));
        refused(INDEX, dropped, b -> b.drop(NONE, 2));
    }

    private static void dropAnswers() {
        sentence("Promise 15", "Returns the number of contracts, of parts and links together, then.");
        BlameChains b = allContracts();
        int many = 65;
        for (int p = 0; p < 10; p++) {
            many--;
            due("own of " + p, many, b.drop(OWN, p));
            many--;
            due("the outside's of " + p, many, b.drop(NONE, p));
            for (int caller = p + 1; caller < 10; caller++) {
                many--;
                due("from " + caller + " to " + p, many, b.drop(caller, p));
            }
        }
        due("none of parts", 0, b.about(1));
        due("none of links", 0, b.about(2));
        sentence("Promise 15", "Drops a contract.");
        BlameChains one = Scenes.rich();
        one.drop(1, 0);
        due("own stays", -10, one.contract(OWN, 0, 0));
        due("the outside's stays", -500, one.contract(NONE, 2, 0));
        due("it is gone", 0, Scenes.hasContract(one, 1, 0) ? 1 : 0);
    }

    private static void standsArguments() {
        sentence("Promise 19", "caller: as for contract()");
        goes(RICH, b -> b.stands(NONE, 2, OWN, 0));
        goes(RICH, b -> b.stands(1, 0, OWN, 0));
        sentence("Promise 19", "other: as for contract()");
        goes(RICH, b -> b.stands(OWN, 0, NONE, 2));
        goes(RICH, b -> b.stands(OWN, 0, 1, 0));
        sentence("Promise 19", "p: part of the one");
        partLimits(() -> allOwn(3), (b, p) -> b.stands(OWN, p, OWN, 0));
        sentence("Promise 19", "q: part of the other one");
        partLimits(() -> allOwn(3), (b, q) -> b.stands(OWN, 0, OWN, q));
        partLimits(() -> allOwn(10), (b, q) -> b.stands(OWN, 9, OWN, q));
        sentence("Promise 19", "Throws IndexOutOfBoundsException if there is no such part or contract");
        noContract((b, caller, p) -> b.stands(caller, p, OWN, 0));
        noContract((b, caller, p) -> b.stands(OWN, 0, caller, p));
        noContract((b, caller, p) -> b.stands(caller, p, caller, p));
    }

    private static void standsAnswers() {
        sentence("Promise 19", "Returns 1 if the one may stand for the other one, otherwise 0.");
        BlameChains b = Scenes.parts(2);
        b.own(0, -1, 1, -1, 1);
        b.link(1, 0, 0, 1, -1, 1);
        due("the one for the other one", 1, b.stands(OWN, 0, 1, 0));
        due("the other one for the one", 0, b.stands(1, 0, OWN, 0));
        due("for itself", 1, b.stands(1, 0, 1, 0));
        asks(RICH, c -> c.stands(OWN, 0, 1, 0));
    }

    private static void holes() {
        sentence("Promise 20", "Returns how many links have a contract whose part has one of its own that may not stand for it.");
        due("without parts", 0, Scenes.empty().holes());
        BlameChains b = Scenes.parts(2);
        due("without contracts", 0, b.holes());
        b.own(0, -5, 5, -5, 5);
        due("without a contract on a link", 0, b.holes());
        b.link(NONE, 1, 0, 0, 0, 0);
        due("without one of the part", 0, b.holes());
        int[][] links = {{-5, 5, -5, 5, 0}, {-6, 5, -5, 5, 1}, {-4, 5, -5, 5, 0}, {-5, 6, -5, 5, 1}, {-5, 4, -5, 5, 0},
            {-5, 5, -6, 5, 0}, {-5, 5, -4, 5, 1}, {-5, 5, -5, 6, 0}, {-5, 5, -5, 4, 1}};
        for (int[] link : links) {
            b.link(1, 0, link[0], link[1], link[2], link[3]);
            due(java.util.Arrays.toString(link), link[4], b.holes());
            b.drop(1, 0);
            b.link(NONE, 0, link[0], link[1], link[2], link[3]);
            due("from the outside " + java.util.Arrays.toString(link), link[4], b.holes());
            b.drop(NONE, 0);
        }
        asks(RICH, c -> c.holes());
    }

    private static void holesOfAllLinks() {
        sentence("Promise 20", "Counts holes.");
        BlameChains b = allContracts();
        due("the links from parts have one, those from the outside none", 45, b.holes());
        due("by stands()", 45, countByStands(b));
        for (int p = 0; p < 10; p++) {
            b.own(p, -9999, 9999, 9999, 9999);
        }
        due("the full: each link has one", 55, b.holes());
        for (int p = 0; p < 10; p++) {
            b.own(p, -9999, 9999, 0, 0);
        }
        due("the empty: none has one", 0, b.holes());
    }

    private static int countByStands(BlameChains b) {
        int count = 0;
        for (int p = 0; p < 10; p++) {
            count += 1 - b.stands(OWN, p, NONE, p);
            for (int caller = p + 1; caller < 10; caller++) {
                count += 1 - b.stands(OWN, p, caller, p);
            }
        }
        return count;
    }
}

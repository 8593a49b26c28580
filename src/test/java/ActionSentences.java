/** ACTIONS AND UNDO, EXCEPTIONS, and promises 10, 11, 12 and 17: what changes the state, and what takes it back. */
final class ActionSentences extends Sentences {
    /** What is no action: behind it nothing is remembered. */
    private static final Call[] NO_ACTIONS = {b -> b.append('C'), b -> b.clearText(), b -> b.errorPosition(), b -> b.load(),
        b -> b.about(0), b -> b.part(1, 8), b -> b.contract(OWN, 0, 0), b -> b.blame(0, 0), b -> b.would(1, 5, 0),
        b -> b.stands(OWN, 0, OWN, 0), b -> b.holes(), b -> b.firstBad(1, 0, 200), b -> b.mostBlamed(1, 0, 200),
        b -> b.reach(1, 0, true), b -> b.runScript(1, 11500), b -> b.simulate(1, 99), b -> b.save(0), b -> b.save(1)};

    private ActionSentences() {
    }

    static void all() {
        everythingButTextAndSlots();
        countsAreState();
        eachCallIsAnAction();
        eachIsTakenBack();
        undoIsNone();
        noActions();
        at14States();
        atMost14States();
        meaningOfExceptions();
        namedFirst();
        throwsChangeNothing();
        addArguments();
        addAnswers();
        chainArguments();
        chainAnswers();
        netArguments();
        netAnswers();
        undoAnswers();
        undoWithoutStates();
    }

    /** Part 0 asks for -9..9, part 1 is chained to it and has a net; the link between them and part 1 have contracts. */
    private static BlameChains plain() {
        BlameChains b = Scenes.loaded("Cn+01+00n+01+00s10+00o0-09+09-09+09");
        b.net(1, 4);
        b.link(1, 0, -5, 5, -5, 5);
        b.call(1, 6);
        b.save(0);
        b.restore(0);
        return b;
    }

    private static void everythingButTextAndSlots() {
        sentence("ACTIONS AND UNDO", "which consists of everything but the text and the save slots.");
        BlameChains b = plain();
        b.add(1, 2);
        b.append('x');
        b.save(1);
        b.undo();
        due("the part is gone", 2, b.about(0));
        due("the text stays", 36, b.clearText());
        b.add(1, 3);
        b.clearText();
        b.undo();
        due("the text is not brought back", 0, b.clearText());
        due("the slot stays", 3, b.restore(1));
        due("with the part", 2, b.part(2, 1));
        due("the other slot too", 2, b.restore(0));
    }

    /** One call over a link with blame that is caught, and one from the outside with blame that is not. */
    private static void countsAreState() {
        sentence("ACTIONS AND UNDO", "the state, which consists of everything but the text and the save slots.");
        BlameChains b = plain();
        countsDue("as it is", b);
        b.save(1);
        b.call(1, 6);
        b.call(0, 10);
        due("calls", 5, b.about(3));
        due("from outside", 3, b.about(4));
        due("blame that arose", 3, b.about(5));
        due("came to the outside", 1, b.about(6));
        due("caught", 2, b.about(7));
        due("the last blame's part", 0, b.blame(0, 2));
        b.undo();
        b.undo();
        countsDue("behind two undos", b);
        b.call(0, 10);
        b.call(1, 6);
        b.restore(1);
        countsDue("behind restore", b);
        b.call(0, 10);
        due("the next call counts from there", 3, b.about(3));
        due("and its blame", 2, b.about(5));
    }

    private static void countsDue(String when, BlameChains b) {
        int[] abouts = {2, 1, 1, 2, 1, 1, 0, 1, 1};
        for (int what = 0; what < abouts.length; what++) {
            due(when + ", about " + what, abouts[what], b.about(what));
        }
        due(when + ", calls of part 0", 1, b.part(0, 5));
        due(when + ", calls of part 1", 1, b.part(1, 5));
        due(when + ", blame of part 1", 1, b.part(1, 6));
        due(when + ", blame of part 0", 0, b.part(0, 6));
        due(when + ", catches of part 1", 1, b.part(1, 7));
        blameDue(when, b, 0, 1, 1, 0, 6, 1, 1);
        due(when + ", a second blame", NONE, b.blame(1, 0));
    }

    private static void eachCallIsAnAction() {
        sentence("ACTIONS AND UNDO",
            "Each call of one of them that does not throw an exception is an action, also if nothing becomes different (undo is none).");
        Call[] same = {b -> b.chain(1, 0, 0), b -> b.chain(0, NONE, 7), b -> b.net(1, 4), b -> b.net(0, NONE),
            b -> b.own(0, -9, 9, -9, 9), b -> b.link(1, 0, -5, 5, -5, 5)};
        String before = Look.state(plain());
        for (Call call : same) {
            BlameChains b = plain();
            call.on(b);
            due("nothing becomes different", before, Look.state(b));
            due("it is remembered", 0, b.undo());
        }
        BlameChains many = plain();
        for (Call call : same) {
            call.on(many);
        }
        due("each one is remembered", same.length - 1, many.undo());
    }

    private static void eachIsTakenBack() {
        sentence("ACTIONS AND UNDO", "Before each action, the state is remembered.");
        Call[] actions = {b -> b.add(9, 99), b -> b.chain(1, NONE, 0), b -> b.chain(1, 0, 99), b -> b.net(1, NONE), b -> b.net(0, 0),
            b -> b.own(1, 0, 0, 0, 0), b -> b.own(0, 0, 0, 0, 0), b -> b.link(NONE, 0, 0, 0, 0, 0), b -> b.link(1, 0, 0, 0, 0, 0),
            b -> b.drop(OWN, 0), b -> b.drop(1, 0), b -> b.call(0, 1), b -> b.call(1, 10), b -> b.call(0, 10)};
        String before = Look.state(plain());
        for (int i = 0; i < actions.length; i++) {
            BlameChains b = plain();
            actions[i].on(b);
            due("something becomes different, " + i, 0, before.equals(Look.state(b)) ? 1 : 0);
            b = plain();
            actions[i].on(b);
            due("one state is remembered, " + i, 0, b.undo());
            due("it is taken back, " + i, before, Look.state(b));
        }
    }

    private static void undoIsNone() {
        sentence("ACTIONS AND UNDO", "(undo is none).");
        BlameChains b = plain();
        b.net(1, 5);
        b.net(1, 6);
        due("the second one", 1, b.undo());
        due("the first one, not the undo", 0, b.undo());
        due("the net", 4, b.part(1, 4));
        refused(STATE, () -> {
            BlameChains undone = plain();
            undone.net(1, 5);
            undone.undo();
            return undone;
        }, c -> c.undo());
    }

    private static void noActions() {
        sentence("ACTIONS AND UNDO", "load and restore are not actions.");
        for (Call call : NO_ACTIONS) {
            Scenes.Scene scene = () -> {
                BlameChains b = plain();
                call.on(b);
                return b;
            };
            refused(STATE, scene, b -> b.undo());
            BlameChains b = plain();
            b.net(0, 9);
            b.net(0, 8);
            call.on(b);
            if (b.about(0) == 2 && b.part(0, 4) == 8) {
                due("no more is remembered", 1, b.undo());
                due("the last action is taken back", 9, b.part(0, 4));
            }
        }
        refused(STATE, () -> {
            BlameChains b = plain();
            b.net(0, 9);
            b.restore(0);
            return b;
        }, b -> b.undo());
    }

    private static BlameChains withActions(int many) {
        BlameChains b = plain();
        for (int i = 1; i <= many; i++) {
            b.net(0, i);
        }
        return b;
    }

    private static void at14States() {
        sentence("ACTIONS AND UNDO", "At most 14 states are remembered;");
        for (int many = 1; many <= 30; many++) {
            due("behind " + many + " actions", Math.min(14, many) - 1, withActions(many).undo());
        }
    }

    private static void atMost14States() {
        sentence("ACTIONS AND UNDO", "when one more is remembered, the oldest one is forgotten.");
        for (int many : new int[] {1, 13, 14, 15, 16, 28, 29, 30, 43}) {
            BlameChains b = withActions(many);
            int states = Math.min(14, many);
            for (int left = states - 1; left >= 0; left--) {
                due("undo behind " + many, left, b.undo());
                int net = many - (states - left);
                due("the net then", net == 0 ? NONE : net, b.part(0, 4));
            }
            refused(STATE, () -> {
                BlameChains undone = withActions(many);
                for (int i = 0; i < states; i++) {
                    undone.undo();
                }
                return undone;
            }, c -> c.undo());
        }
        BlameChains b = withActions(20);
        b.undo();
        b.undo();
        b.undo();
        due("three are taken back", 17, b.part(0, 4));
        b.net(0, 90);
        b.net(0, 91);
        b.net(0, 92);
        b.net(0, 93);
        due("one more than there is room for", 13, b.undo());
        for (int left = 12; left >= 3; left--) {
            b.undo();
        }
        due("of the earlier ones, three are left", 2, b.undo());
        due("the net then", 9, b.part(0, 4));
    }

    private static void meaningOfExceptions() {
        sentence("EXCEPTIONS",
            "IndexOutOfBoundsException means that a part or a contract does not exist, or that a save slot is not 0 or 1.");
        refused(INDEX, RICH, b -> b.part(3, 0));
        refused(INDEX, RICH, b -> b.contract(OWN, 1, 0));
        refused(INDEX, RICH, b -> b.save(2));
        refused(INDEX, RICH, b -> b.restore(2));
        sentence("EXCEPTIONS", "IllegalArgumentException means that another argument is out of its range.");
        refused(ARGUMENT, RICH, b -> b.chain(1, 3, 0));
        refused(ARGUMENT, RICH, b -> b.link(3, 0, 0, 0, 0, 0));
    }

    private static void namedFirst() {
        sentence("EXCEPTIONS", "If several exceptions apply to a call, the one that its description names first is thrown.");
        refused(ARGUMENT, () -> Scenes.text("C".repeat(120)), b -> b.append(256));
        refused(INDEX, RICH, b -> b.part(3, 9));
        refused(INDEX, RICH, b -> b.contract(OWN, 1, 4));
        refused(INDEX, RICH, b -> b.contract(3, 3, -1));
        refused(ARGUMENT, Scenes::full, b -> b.add(10, 0));
        refused(ARGUMENT, Scenes::full, b -> b.add(0, -100));
        refused(INDEX, RICH, b -> b.chain(3, 3, 100));
        refused(INDEX, RICH, b -> b.net(3, 100));
        refused(INDEX, RICH, b -> b.own(3, 1, 0, 10000, 0));
        refused(INDEX, RICH, b -> b.link(0, 3, 1, 0, 10000, 0));
        refused(INDEX, RICH, b -> b.call(3, 1000));
        refused(INDEX, RICH, b -> b.would(3, 1000, 5));
        refused(INDEX, RICH, b -> b.firstBad(3, 1000, 201));
        refused(INDEX, RICH, b -> b.mostBlamed(3, 1000, 201));
        refused(INDEX, RICH, b -> b.reach(3, 1000, true));
        refused(INDEX, Scenes::empty, b -> b.restore(2));
    }

    private static void throwsChangeNothing() {
        sentence("EXCEPTIONS", "A call that throws an exception changes nothing.");
        Call[] wrong = {b -> b.append(256), b -> b.load(), b -> b.about(9), b -> b.part(2, 9), b -> b.contract(OWN, 0, 4),
            b -> b.blame(0, 6), b -> b.add(10, 0), b -> b.add(0, 100), b -> b.chain(1, 0, 100), b -> b.chain(1, 1, 5),
            b -> b.net(0, 100), b -> b.own(0, 1, 0, 0, 0), b -> b.link(1, 0, 0, 0, 1, 0), b -> b.drop(OWN, 10), b -> b.call(0, 1000),
            b -> b.would(0, 0, 5), b -> b.stands(OWN, 0, OWN, 10), b -> b.firstBad(0, 0, 0), b -> b.mostBlamed(0, 0, 0),
            b -> b.reach(0, 1000, false), b -> b.runScript(4, 0), b -> b.simulate(0, 100), b -> b.save(2), b -> b.restore(2)};
        for (Scenes.Scene scene : new Scenes.Scene[] {RICH, ANEW, Scenes::full}) {
            for (Call call : wrong) {
                String before = Look.behind(scene, b -> Scenes.write(b, "Cx").about(0));
                due("a refused call", before, Look.behind(() -> Scenes.write(scene.made(), "Cx"), call));
            }
        }
    }

    private static void addArguments() {
        sentence("Promise 10", "factor: -9 to 9");
        limits(ARGUMENT, RICH, -9, 9, (b, factor) -> b.add(factor, 0));
        sentence("Promise 10", "more: -99 to 99");
        limits(ARGUMENT, ANEW, -99, 99, (b, more) -> b.add(0, more));
        sentence("Promise 10", "Throws IllegalArgumentException if factor or more is out of range");
        refused(ARGUMENT, RICH, b -> b.add(10, 100));
        refused(ARGUMENT, Scenes::full, b -> b.add(-10, 0));
        refused(ARGUMENT, Scenes::empty, b -> b.add(NONE, NONE));
        sentence("Promise 10", "Throws IllegalStateException if there are 10");
        goes(() -> Scenes.parts(9), b -> b.add(0, 0));
        refused(STATE, Scenes::ten, b -> b.add(0, 0));
        refused(STATE, Scenes::full, b -> b.add(-9, 99));
        BlameChains b = Scenes.ten();
        b.undo();
        due("there is room again", 9, b.add(0, 0));
    }

    private static void addAnswers() {
        sentence("Promise 10", "Returns its number.");
        BlameChains b = Scenes.empty();
        int[][] numbers = {{-9, -99}, {9, 99}, {0, 0}, {-1, 1}, {1, -1}};
        for (int p = 0; p < numbers.length; p++) {
            due("the number", p, b.add(numbers[p][0], numbers[p][1]));
            due("its factor", numbers[p][0], b.part(p, 0));
            due("its more", numbers[p][1], b.part(p, 1));
            due("what it gives", numbers[p][0] * 7 + numbers[p][1], b.call(p, 7));
        }
        sentence("Promise 10", "Adds a part, which is not chained.");
        BlameChains other = Scenes.full();
        for (int p = 9; p > 0; p--) {
            other.net(p, 5);
            other.call(p, 901);
        }
        due("the last one caught blame", 1, other.part(9, 7));
        other.link(NONE, 9, -1, 1, -1, 1);
        other.own(9, -9999, 9999, 8, 8);
        other.call(9, 1);
        Scenes.write(other, "C").load();
        for (int p = 0; p < 10; p++) {
            other.add(1, 0);
            int[] due = {1, 0, NONE, NONE, NONE, 0, 0, 0, 1};
            for (int what = 0; what <= 8; what++) {
                due("where another part " + p + " was, " + what, due[what], other.part(p, what));
            }
        }
        due("no contracts of parts", 0, other.about(1));
        due("no contracts of links", 0, other.about(2));
    }

    private static void chainArguments() {
        sentence("Promise 11", "p: part");
        partLimits(RICH, (b, p) -> b.chain(p, NONE, 0));
        partLimits(Scenes::full, (b, p) -> b.chain(p, NONE, 0));
        sentence("Promise 11", "Throws IndexOutOfBoundsException if there is no part p");
        refused(INDEX, Scenes::empty, b -> b.chain(0, NONE, 0));
        refused(INDEX, RICH, b -> b.chain(3, 2, 0));
        refused(INDEX, RICH, b -> b.chain(-1, 2, 100));
        sentence("Promise 11", "next: part with a smaller number, or NONE");
        limits(ARGUMENT, RICH, 0, 1, (b, next) -> b.chain(2, next, 0));
        limits(ARGUMENT, Scenes::full, 0, 8, (b, next) -> b.chain(9, next, 0));
        goes(RICH, b -> b.chain(0, NONE, 0));
        for (int next : new int[] {NONE - 1, NONE + 1, -1, 0, 1, 3}) {
            refused(ARGUMENT, ANEW, b -> b.chain(0, next, 0));
        }
        sentence("Promise 11", "step: -99 to 99");
        limits(ARGUMENT, ANEW, -99, 99, (b, step) -> b.chain(1, 0, step));
        sentence("Promise 11", "Throws IllegalArgumentException if next or step is out of range");
        limits(ARGUMENT, ANEW, -99, 99, (b, step) -> b.chain(1, NONE, step));
        refused(ARGUMENT, ANEW, b -> b.chain(2, 2, 100));
    }

    private static void chainAnswers() {
        sentence("Promise 11", "Returns how many parts there are in its chain then.");
        BlameChains b = Scenes.ten();
        for (int p = 1; p < 10; p++) {
            due("part " + p, p + 1, b.chain(p, p - 1, p % 2 == 0 ? 99 : -99));
        }
        due("the full chain reckons", 5 - 99, b.call(9, 5));
        due("to the first one", 2, b.chain(9, 0, 99));
        due("the step", 99 + 5, b.call(9, 5));
        sentence("Promise 11", "Chains a part to another one, or not any more.");
        due("not any more", 1, b.chain(9, NONE, 99));
        due("no step either", 5, b.call(9, 5));
        due("not chained at all", 1, b.chain(0, NONE, 0));
        due("the others are as before", 9, b.part(8, 8));
    }

    private static void netArguments() {
        sentence("Promise 12", "p: part");
        partLimits(RICH, (b, p) -> b.net(p, 0));
        partLimits(Scenes::full, (b, p) -> b.net(p, NONE));
        sentence("Promise 12", "Throws IndexOutOfBoundsException if there is no such part");
        refused(INDEX, Scenes::empty, b -> b.net(0, 0));
        refused(INDEX, RICH, b -> b.net(3, 100));
        refused(INDEX, RICH, b -> b.net(-1, NONE));
        sentence("Promise 12", "net: -99 to 99, or NONE");
        goes(RICH, b -> b.net(2, NONE));
        goes(RICH, b -> b.net(0, NONE));
        sentence("Promise 12", "Throws IllegalArgumentException if net is out of range");
        limits(ARGUMENT, ANEW, -99, 99, (b, net) -> b.net(2, net));
        refused(ARGUMENT, ANEW, b -> b.net(2, NONE - 1));
        refused(ARGUMENT, ANEW, b -> b.net(2, NONE + 1));
        refused(ARGUMENT, ANEW, b -> b.net(2, -NONE));
    }

    private static void netAnswers() {
        sentence("Promise 12", "Returns the previous one, NONE if there was none.");
        BlameChains b = Scenes.parts(2);
        int before = NONE;
        for (int net : new int[] {-99, 99, 0, 0, NONE, NONE, 1}) {
            due("before " + net, before, b.net(1, net));
            due("then", net, b.part(1, 4));
            before = net;
        }
        due("of another part", NONE, b.net(0, 5));
        sentence("Promise 12", "Gives a part a net, or takes it away.");
        BlameChains row = Scenes.asking(Scenes.row(2), 0);
        row.net(1, 0);
        due("a net of 0 catches", 0, row.call(1, 5));
        row.net(1, NONE);
        due("without one", NONE, row.call(1, 5));
    }

    private static void undoAnswers() {
        sentence("Promise 17", "Returns how many states are still remembered.");
        BlameChains b = withActions(14);
        for (int left = 13; left >= 0; left--) {
            due("of fourteen", left, b.undo());
        }
        due("of one", 0, withActions(1).undo());
        sentence("Promise 17", "Takes back the last action that is remembered.");
        BlameChains last = withActions(2);
        last.undo();
        due("the last one", 1, last.part(0, 4));
        last.undo();
        due("the first one", Look.state(plain()), Look.state(last));
    }

    private static void undoWithoutStates() {
        sentence("Promise 17", "Throws IllegalStateException if none is remembered");
        refused(STATE, Scenes::empty, b -> b.undo());
        refused(STATE, () -> plain(), b -> b.undo());
        refused(STATE, () -> {
            BlameChains b = withActions(1);
            b.undo();
            return b;
        }, b -> b.undo());
        goes(() -> withActions(1), b -> b.undo());
    }
}

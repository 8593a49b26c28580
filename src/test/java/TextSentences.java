/** TEXT and promises 2 to 5: the text buffer, what a plan is, and loading one. */
final class TextSentences extends Sentences {
    /** The commands with all kinds of places: C and L letters, S signs, Z the digit 0, D any digit. */
    private static final String[][] PIECES = {{"C", "C"}, {"n+02-31", "LSZDSDD"}, {"s10+99", "LDDSDD"},
        {"o0-10+10-15+15", "LDSDDSDDSDDSDD"}, {"k+05", "LSDD"}, {"x0", "LD"}, {"n-09+00", "LSZDSDD"}, {"x9", "LD"}};

    private TextSentences() {
    }

    static void all() {
        characterCodes();
        atMost120Characters();
        newLength();
        previousLength();
        letterC();
        anyNumberOfCommands();
        firstCharacterNotAllowed();
        digitsOfNumbers();
        turnedRanges();
        noBlanks();
        endsTooSoon();
        errorPositionChangesNothing();
        commandsLeftOut();
        partAddedLast();
        numberLeftOut();
        asInANewObject();
        nothingBehindLoad();
        keepsTheText();
        noPlanIsRefused();
    }

    private static void error(String text, int want) {
        due("'" + text + "'", want, Scenes.text(text).errorPosition());
    }

    private static void leftOut(String text, int want) {
        due("'" + text + "'", want, Scenes.text(text).load());
    }

    private static void characterCodes() {
        sentence("Promise 2", "c: character code, 0 to 255");
        due("0", 1, Scenes.empty().append(0));
        due("255", 1, Scenes.empty().append(255));
        sentence("Promise 2", "Throws IllegalArgumentException if c is out of range");
        limits(ARGUMENT, RICH, 0, 255, (b, c) -> b.append(c));
        refused(ARGUMENT, RICH, b -> b.append('C' + 256));
        sentence("Promise 2", "Appends a character to the text buffer.");
        for (int c = 0; c <= 255; c++) {
            BlameChains b = Scenes.empty();
            b.append(c);
            due("the text is the letter C alone if c is " + c, c == 'C' ? NONE : 0, b.errorPosition());
        }
    }

    private static void atMost120Characters() {
        sentence("TEXT", "The object has a text buffer of at most 120 characters.");
        BlameChains b = Scenes.text("x".repeat(118));
        due("the 119th", 119, b.append('x'));
        due("the 120th", 120, b.append('x'));
        sentence("Promise 2", "Throws IllegalStateException if the text already has 120 characters");
        goes(() -> Scenes.text("C".repeat(119)), c -> c.append('n'));
        Scenes.Scene full = () -> Scenes.text(Scenes.fullPlan());
        refused(STATE, full, c -> c.append('n'));
        refused(STATE, full, c -> c.append(0));
        refused(STATE, full, c -> c.append(255));
        refused(ARGUMENT, full, c -> c.append(-1));
        refused(ARGUMENT, full, c -> c.append(256));
        BlameChains again = full.made();
        again.clearText();
        due("there is room again", 1, again.append('C'));
    }

    private static void newLength() {
        sentence("Promise 2", "Returns the new length of the text.");
        BlameChains b = Scenes.empty();
        for (int length = 1; length <= 120; length++) {
            due("append", length, b.append('C'));
        }
    }

    private static void previousLength() {
        sentence("Promise 3", "Returns the previous length of the text.");
        due("of the empty text", 0, Scenes.empty().clearText());
        due("of one character", 1, Scenes.text("C").clearText());
        due("of 119", 119, Scenes.text("C".repeat(119)).clearText());
        BlameChains b = Scenes.text("C".repeat(120));
        due("of the full text", 120, b.clearText());
        due("of the emptied text", 0, b.clearText());
        sentence("Promise 3", "Empties the text buffer.");
        due("the error position", 0, b.errorPosition());
        due("the next length", 1, b.append('C'));
        due("nothing is left behind the new text", NONE, b.errorPosition());
    }

    private static void letterC() {
        sentence("TEXT", "A plan is the letter C, and then any number of commands");
        error("", 0);
        error("C", NONE);
        error("c", 0);
        error("B", 0);
        error("D", 0);
        error("n+01+00", 0);
        error("CC", 1);
        error("Cn+01+00C", 8);
        sentence("Promise 4", "Returns the error position of the text; NONE if it is a plan.");
        error("" + (char) 0, 0);
        error("C" + (char) 0, 1);
        error("C" + (char) 255, 1);
        error("C" + (char) ('n' + 128), 1);
    }

    private static void anyNumberOfCommands() {
        sentence("TEXT", "and then any number of commands");
        error("C" + "x0".repeat(59), NONE);
        error(Scenes.fullPlan(), NONE);
        error(Scenes.fullPlan().substring(0, 119) + " ", 119);
        error("C" + "x0".repeat(59) + "x", 120);
        error("C" + "x0".repeat(59) + "C", 119);
        error("D" + Scenes.fullPlan().substring(1), 0);
        due("59 commands are left out", 59, Scenes.text("C" + "x0".repeat(59)).load());
    }

    private static String plan(int column) {
        StringBuilder all = new StringBuilder();
        for (String[] piece : PIECES) {
            all.append(piece[column]);
        }
        return all.toString();
    }

    private static boolean isAllowed(char place, int c) {
        switch (place) {
            case 'C': return c == 'C';
            case 'L': return c == 'n' || c == 's' || c == 'o' || c == 'k' || c == 'x';
            case 'S': return c == '+' || c == '-';
            case 'Z': return c == '0';
            default: return c >= '0' && c <= '9';
        }
    }

    private static void firstCharacterNotAllowed() {
        sentence("TEXT", "The error position is the index of the first character that these rules do not allow at its place");
        String plan = plan(0);
        String places = plan(1);
        error(plan, NONE);
        for (int at = 0; at < plan.length(); at++) {
            for (int c = 0; c <= 255; c++) {
                String text = plan.substring(0, at) + (char) c + plan.substring(at + 1);
                int position = Scenes.text(text).errorPosition();
                boolean isFirst = !isAllowed(places.charAt(at), c);
                due("code " + c + " at " + at + " is the first one", isFirst ? 1 : 0, position == at ? 1 : 0);
            }
            error(plan.substring(0, at) + "!" + plan.substring(at + 1) + "!", at);
        }
    }

    private static void digitsOfNumbers() {
        sentence("TEXT", "(a digit is not allowed if no number that is allowed begins with it and those before it;");
        error("Cn+09+99", NONE);
        error("Cn-09-99", NONE);
        error("Cn-00-00", NONE);
        error("Cn+10+00", 3);
        error("Cn-10+00", 3);
        error("Cn+90+00", 3);
        error("Cn+1", 3);
        error("Cn+0", 4);
        error("Cs00+99", NONE);
        error("Cs99-99", NONE);
        error("Co9-99-99-99-99", NONE);
        error("Ck+99", NONE);
        error("Ck-99", NONE);
        error("Cx9", NONE);
        error("Cn+00+0:", 7);
        error("Cn+00+0/", 7);
        error("Cx:", 2);
        error("Cx/", 2);
        sentence("TEXT", "a signed number is + or -, and two digits.");
        error("Ck01", 2);
        error("Ck+1", 4);
        error("Ck+123", 5);
        error("Ck,05", 2);
        error("Ck*05", 2);
        error("Ck.05", 2);
        error("Ck++05", 3);
        sentence("TEXT", "n, a signed number from -09 to +09 for the factor and one for more: add()");
        BlameChains b = Scenes.loaded("Cn-09-99n+09+99n-00+00");
        due("the least factor", -9, b.part(0, 0));
        due("the least more", -99, b.part(0, 1));
        due("the greatest factor", 9, b.part(1, 0));
        due("the greatest more", 99, b.part(1, 1));
        due("-00", 0, b.part(2, 0));
    }

    private static void turnedRanges() {
        sentence("TEXT", "a range may be told whose low bound is above the high one)");
        error("Co0+99-99+99-99", NONE);
        error("Co0+01+00+00+00", NONE);
        error("Co0+00+00+01+00", NONE);
        leftOut("Cn+01+00o0+01+00+00+00", 1);
        leftOut("Cn+01+00o0+00+00+01+00", 1);
        leftOut("Cn+01+00o0+00+00-01-02", 1);
        leftOut("Cn+01+00o0+00+00+00+00", 0);
        leftOut("Cn+01+00o0+99+99-99-99", 0);
        leftOut("Cn+01+00o0-99+99-99+99", 0);
    }

    private static void noBlanks() {
        sentence("TEXT", "There are no blanks.");
        String plan = plan(0);
        for (int at = 0; at <= plan.length(); at++) {
            error(plan.substring(0, at) + " " + plan.substring(at), at);
        }
        error("Cn+01+00\n", 8);
        error("Cn+01+00\t", 8);
        error(" ", 0);
    }

    private static void endsTooSoon() {
        sentence("TEXT", "if the text ends too soon, it is the length of the text.");
        String plan = plan(0);
        String places = plan(1);
        for (int length = 1; length <= plan.length(); length++) {
            boolean isWhole = length == plan.length() || places.charAt(length) == 'L';
            error(plan.substring(0, length), isWhole ? NONE : length);
        }
        error("", 0);
        error(Scenes.fullPlan().substring(0, 119), 119);
        error("C" + "n+01+00".repeat(16) + "k+00s00", 120);
    }

    private static void errorPositionChangesNothing() {
        sentence("Promise 4", "Checks the text.");
        asks(RICH, b -> b.errorPosition());
        asks(() -> Scenes.text("Cn+01+00x"), b -> b.errorPosition());
        asks(() -> Scenes.text(Scenes.fullPlan()), b -> b.errorPosition());
    }

    private static void commandsLeftOut() {
        sentence("TEXT", "Commands that would throw an exception are left out.");
        leftOut("C" + "n+01+00".repeat(10), 0);
        leftOut("C" + "n+01+00".repeat(11), 1);
        due("ten parts stay", 10, Scenes.loaded("C" + "n+01+00".repeat(11)).about(0));
        leftOut("Cn+01+00n+01+00s10+00", 0);
        leftOut("Cn+01+00n+01+00s11+00", 1);
        leftOut("Cn+01+00n+01+00s00+00", 1);
        leftOut("Cn+01+00n+01+00s01+00", 1);
        leftOut("Cn+01+00n+01+00s12+00", 1);
        leftOut("Cn+01+00n+01+00s19-99", 1);
        leftOut("Cn+01+00n+01+00s20+00", 1);
        leftOut("Cn+01+00o0+00+00+00+00", 0);
        leftOut("Cn+01+00o1+00+00+00+00", 1);
        leftOut("Cn+01+00o9+00+00+00+00", 1);
        leftOut("Cn+01+00k+00", 0);
        leftOut("Ck+00", 1);
        leftOut("Cn+01+00o0+00+00+00+00x0", 0);
        leftOut("Cn+01+00o0+00+00+00+00x0x0", 1);
        leftOut("Cn+01+00x0", 1);
        leftOut("Cn+01+00x1", 1);
        leftOut("Cx0", 1);
        BlameChains b = Scenes.loaded("Cs10+00x9o0+00+00+00+00k+00n+02+03s11+00k+05o0+05+04+00+00");
        due("the others are done", 13, b.would(0, 5, 0));
        due("a call is done", 1, b.about(3));
        due("a contract is not there", 0, b.about(1));
        b = Scenes.loaded("Cn+01+00n+01+00s10-07s11+05o0-05+05-05+05o0+03+02+00+00");
        due("what was before a command that is left out stays: the step", -7, b.part(1, 3));
        due("what was before a command that is left out stays: the ask", -5, b.contract(OWN, 0, 0));
    }

    private static void partAddedLast() {
        sentence("TEXT", "k and a signed number: call() of the part that was added last;");
        BlameChains b = Scenes.loaded("Cn+01+00k+01n+01+00k+02k-03");
        due("the first one", 1, b.part(0, 5));
        due("the second one", 2, b.part(1, 5));
        b = Scenes.loaded("C" + "n+01+00".repeat(11) + "k-99k+99");
        due("an eleventh that is left out was not added", 2, b.part(9, 5));
        b = Scenes.loaded("Cn+01+00o0-99+98-99+99k+98k+99k-99");
        due("+98, +99 and -99", 3, b.about(4));
        due("+99 alone is not in the ask", 99, b.blame(0, 3));
        due("once", 1, b.about(6));
    }

    private static void numberLeftOut() {
        sentence("Promise 5", "Returns the number of commands that are left out.");
        leftOut("C", 0);
        leftOut("Cx0", 1);
        leftOut(Scenes.fullPlan(), 7);
        leftOut("C" + "k+00".repeat(29), 29);
        leftOut("Cx0n+01+00k+00x0", 2);
        BlameChains b = Scenes.text("Cx0");
        due("once", 1, b.load());
        due("and not added to at another load", 1, b.load());
    }

    private static void asInANewObject() {
        sentence("Promise 5", "Makes everything as in a new object, and then does the commands of the text.");
        Call toLoadAgain = b -> Scenes.write(b, "C").load();
        String asNew = Look.behind(() -> Scenes.loaded("C"), b -> 0);
        due("behind rich", asNew, Look.behind(Scenes::rich, toLoadAgain));
        due("behind full", asNew, Look.behind(Scenes::full, toLoadAgain));
        due("is that of a new object", Look.state(new BlameChains()), Look.state(Scenes.loaded("C")));
        String plan = "Cn+02+01n+03+00s10+04o1-09+09-99+99k+05k+11x1k+11";
        String loaded = Look.behind(() -> Scenes.loaded(plan), b -> 0);
        due("a plan behind rich", loaded, Look.behind(Scenes::rich, b -> Scenes.write(b, plan).load()));
        due("a plan behind full", loaded, Look.behind(Scenes::full, b -> Scenes.write(b, plan).load()));
        due("a plan behind itself", loaded, Look.behind(() -> Scenes.loaded(plan), b -> b.load()));
        BlameChains byCalls = Scenes.empty();
        byCalls.add(2, 1);
        byCalls.add(3, 0);
        byCalls.chain(1, 0, 4);
        byCalls.own(1, -9, 9, -99, 99);
        byCalls.call(1, 5);
        byCalls.call(1, 11);
        byCalls.drop(OWN, 1);
        byCalls.call(1, 11);
        due("as by calls of the methods", Look.state(byCalls), Look.state(Scenes.loaded(plan)));
    }

    private static void nothingBehindLoad() {
        sentence("Promise 5", "Behind it no state is remembered, and both save slots are empty.");
        Scenes.Scene loaded = () -> {
            BlameChains b = Scenes.rich();
            Scenes.write(b, "Cn+01+00n+01+00s10+00k+00").load();
            return b;
        };
        refused(STATE, loaded, b -> b.undo());
        refused(STATE, loaded, b -> b.restore(0));
        refused(STATE, loaded, b -> b.restore(1));
        BlameChains b = loaded.made();
        b.net(0, 1);
        due("one action behind it", 0, b.undo());
    }

    private static void keepsTheText() {
        sentence("Promise 5", "Keeps the text.");
        BlameChains b = Scenes.loaded(Scenes.fullPlan());
        due("a plan", NONE, b.errorPosition());
        due("its length", 120, b.clearText());
        due("another text", 6, Scenes.loaded("Ck+00").append('x'));
    }

    private static void noPlanIsRefused() {
        sentence("Promise 5", "Throws IllegalStateException if the text is not a plan");
        refused(STATE, Scenes::empty, b -> b.load());
        for (String text : new String[] {"", "c", "Cn", "Cn+01+0", "Cn+01+00 ", "Cn+10+00", "Cn+01+00x", "Cx:", "CC",
            Scenes.fullPlan().substring(0, 119)}) {
            refused(STATE, () -> Scenes.write(Scenes.rich(), text), b -> b.load());
        }
        goes(() -> Scenes.write(Scenes.rich(), "C"), b -> b.load());
    }
}

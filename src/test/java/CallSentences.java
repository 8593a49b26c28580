/** PARTS, CALLS, and promises 1 and 16: what a part gives, and who is blamed. */
final class CallSentences extends Sentences {
    private CallSentences() {
    }

    static void all() {
        at512Calls();
        noSuchResult();
        newObject();
        atMostTenParts();
        smallerNumber();
        bounds();
        boundsInside();
        numberOfNet();
        steps();
        overTheLink();
        untilSomeoneIsBlamed();
        nets();
        withoutNet();
        blamed();
        heights();
        whenItBegins();
        callArguments();
        callAnswers();
    }

    private static void at512Calls() {
        sentence("What it is", "An object is used for at most 512 calls after it has been made");
        BlameChains b = Scenes.parts(1);
        for (int i = 2; i <= 511; i++) {
            due("call " + i, i, b.call(0, i));
        }
        due("call 512", 510, b.about(3));
        BlameChains undone = Scenes.parts(1);
        for (int i = 2; i <= 511; i++) {
            undone.net(0, i % 99);
        }
        due("call 512 is undo", 13, undone.undo());
    }

    private static void noSuchResult() {
        sentence("EXCEPTIONS", "The constants: NONE = -10000: There is no such result; the outside.");
        due("NONE", -10000, BlameChains.NONE);
    }

    private static void newObject() {
        sentence("Promise 1", "Creates a plan without parts.");
        BlameChains b = new BlameChains();
        for (int what = 0; what <= 8; what++) {
            due("about " + what, 0, b.about(what));
        }
        for (int k = 0; k <= 9; k++) {
            due("blame " + k, NONE, b.blame(k, 0));
        }
        due("holes", 0, b.holes());
        due("the text", 0, b.clearText());
        due("the first part", 0, b.add(0, 0));
        refused(INDEX, Scenes::empty, c -> c.part(0, 0));
        refused(STATE, Scenes::empty, c -> c.undo());
        refused(STATE, Scenes::empty, c -> c.restore(0));
        refused(STATE, Scenes::empty, c -> c.restore(1));
        refused(STATE, Scenes::empty, c -> c.load());
    }

    private static void atMostTenParts() {
        sentence("PARTS", "There are at most 10 parts, numbered from 0 in the order in which they were added.");
        BlameChains b = Scenes.empty();
        for (int p = 0; p < 10; p++) {
            due("part " + p, p, b.add(p % 10, p));
            due("parts", p + 1, b.about(0));
        }
        for (int p = 0; p < 10; p++) {
            due("more of part " + p, p, b.part(p, 1));
        }
        due("the tenth reckons", 9 * 3 + 9, b.call(9, 3));
        refused(STATE, Scenes::ten, c -> c.add(0, 0));
        refused(INDEX, () -> Scenes.parts(9), c -> c.call(9, 0));
        goes(() -> Scenes.parts(9), c -> c.add(0, 0));
    }

    private static void smallerNumber() {
        sentence("PARTS", "It can be chained only to a part with a smaller number.");
        for (int p = 0; p < 10; p++) {
            int part = p;
            for (int next = -1; next <= 10; next++) {
                int other = next;
                if (next >= 0 && next < p) {
                    goes(Scenes::ten, b -> b.chain(part, other, 0));
                } else {
                    refused(ARGUMENT, Scenes::ten, b -> b.chain(part, other, 0));
                }
            }
        }
    }

    /** Part 1 gives 9 * z + more, z being what part 0 gives: x + 13 + 99 at the top, and the same below. */
    private static BlameChains nearBound(int sign, int more) {
        BlameChains b = Scenes.empty();
        b.add(1, sign * 99);
        b.add(9, more);
        b.chain(1, 0, sign * 13);
        return b;
    }

    private static void bounds() {
        sentence("PARTS", "All numbers that are given are at least -9999 and at most 9999: one that would be beyond becomes the bound.");
        due("one below the high bound", 9998, nearBound(1, -1).call(1, 999));
        due("the high bound", 9999, nearBound(1, 0).call(1, 999));
        due("one above it", 9999, nearBound(1, 1).call(1, 999));
        due("99 above it", 9999, nearBound(1, 99).call(1, 999));
        due("one above the low bound", -9998, nearBound(-1, 1).call(1, -999));
        due("the low bound", -9999, nearBound(-1, 0).call(1, -999));
        due("one below it is not NONE", -9999, nearBound(-1, -1).call(1, -999));
        due("99 below it", -9999, nearBound(-1, -99).call(1, -999));
        due("would tells it too", -9999, nearBound(-1, -1).would(1, -999, 0));
        due("and no blame", 0, nearBound(-1, -1).would(1, -999, 1));
        BlameChains b = nearBound(-1, -1);
        b.call(1, -999);
        due("no blame came to the outside", 0, b.about(6));
        due("and none to scripts and questions", NONE, b.firstBad(1, -999, 1));
    }

    private static void boundsInside() {
        sentence("PARTS", "one that would be beyond becomes the bound.");
        BlameChains b = nearBound(1, 99);
        b.add(1, -1);
        b.chain(2, 1, 0);
        due("a part above reckons with the bound", 9998, b.call(2, 999));
        b.add(-9, 99);
        b.chain(3, 1, 0);
        due("and beyond the other one", -9999, b.call(3, 999));
        b.own(1, -9999, 9999, 9999, 9999);
        due("the bound is in the give", 9999, b.call(1, 999));
        b.own(1, -9999, 9999, -9999, 9998);
        due("and not in a narrower one", NONE, b.call(1, 999));
        blameDue("the bound is the number", b, 0, 2, NONE, 1, 9999, 1, 0);
        BlameChains low = nearBound(-1, -99);
        low.own(1, -9999, 9999, -9998, 9999);
        due("the low bound is not in the give", NONE, low.call(1, -999));
        blameDue("the low bound is the number", low, 0, 2, NONE, 1, -9999, 1, 0);
    }

    private static void numberOfNet() {
        sentence("PARTS", "A part may have a net, a number from -99 to 99.");
        for (int net : new int[] {-99, -1, 0, 1, 99}) {
            BlameChains b = Scenes.asking(Scenes.row(2), 0);
            b.net(1, net);
            due("a net " + net + " is given", net, b.call(1, 5));
            due("and told", net, b.part(1, 4));
            due("and has caught", 1, b.part(1, 7));
        }
    }

    private static void steps() {
        sentence("CALLS", "1. If the link has a contract, and x is not in its ask, the caller is blamed (1).");
        BlameChains b = Scenes.parts(1);
        b.link(NONE, 0, -5, 5, -9999, 9999);
        checkAsk(b, 0, -5, 5, 1);
        sentence("CALLS", "2. If the part has a contract, and x is not in its ask: if the link has one, the link is blamed (3),"
            + " otherwise the caller (1).");
        b.own(0, -4, 4, -9999, 9999);
        checkAsk(b, 0, -4, 4, 3);
        b.drop(NONE, 0);
        checkAsk(b, 0, -4, 4, 1);
        sentence("CALLS", "4. If the part has a contract, and the number that it gives is not in its give, the part is blamed (2).");
        b.own(0, -9999, 9999, -3, 3);
        checkAsk(b, 0, -3, 3, 2);
        sentence("CALLS", "5. If the link has a contract, and the number is not in its give: if the part has one, the link is"
            + " blamed (3), otherwise the part (2).");
        b.link(NONE, 0, -9999, 9999, -2, 2);
        checkAsk(b, 0, -2, 2, 3);
        b.drop(OWN, 0);
        checkAsk(b, 0, -2, 2, 2);
    }

    /** Both bounds go well, the numbers beyond them bring blame of the kind: the part gives what it takes. */
    private static void checkAsk(BlameChains b, int p, int low, int high, int kind) {
        due("the low bound", low, b.call(p, low));
        due("the high bound", high, b.call(p, high));
        due("below the low bound", NONE, b.call(p, low - 1));
        blameDue("below the low bound", b, 0, kind, NONE, p, low - 1, 1, 0);
        due("above the high bound", NONE, b.call(p, high + 1));
        blameDue("above the high bound", b, 0, kind, NONE, p, high + 1, 1, 0);
        due("all the way down", NONE, b.call(p, -999));
        due("all the way up", NONE, b.call(p, 999));
    }

    private static void overTheLink() {
        sentence("CALLS", "if it is chained, it calls the part to which it is chained (over the link from the one to the other one).");
        BlameChains b = Scenes.row(3);
        b.link(2, 0, 0, 0, 0, 0);
        b.link(NONE, 0, 1, 1, 1, 1);
        b.link(NONE, 1, 2, 2, 2, 2);
        due("other links to the parts below are not looked at", 5, b.call(2, 5));
        due("that from the outside to part 0 is", NONE, b.call(0, 5));
        due("and that to part 1", NONE, b.call(1, 5));
        b.link(1, 0, 5, 5, 5, 5);
        due("its own link allows it", 5, b.call(2, 5));
        due("its own link alone does not", NONE, b.call(2, 6));
        blameDue("part 1 is the caller", b, 0, 1, 1, 0, 6, 3, 0);
        due("the outside is another caller", 1, b.call(0, 1));
        b.chain(2, 0, 0);
        due("over the other link", NONE, b.call(2, 5));
        blameDue("part 2 is the caller", b, 0, 1, 2, 0, 5, 2, 0);
        due("that allows 0", 0, b.call(2, 0));
        b.chain(2, NONE, 0);
        due("not chained, it calls none", 5, b.call(2, 5));
        due("so no other call begins", 4, b.part(1, 5));
    }

    private static void untilSomeoneIsBlamed() {
        sentence("CALLS", "these things happen, one after the other, until someone is blamed:");
        BlameChains b = Scenes.row(2);
        b.link(NONE, 1, 0, 0, 0, 0);
        b.own(1, 0, 0, 0, 0);
        b.own(0, 0, 0, 0, 0);
        due("all is broken", NONE, b.call(1, 1));
        blameDue("step 1 is first", b, 0, 1, NONE, 1, 1, 1, 0);
        due("nobody else is blamed", 1, b.about(5));
        due("nobody else is called", 1, b.about(3));
        b.link(NONE, 1, -9, 9, 0, 0);
        due("all but the link's ask", NONE, b.call(1, 1));
        blameDue("step 2 is next", b, 0, 3, NONE, 1, 1, 1, 0);
        due("the part below is not called yet", 2, b.about(3));
        b.own(1, -9, 9, 0, 0);
        due("the part below", NONE, b.call(1, 1));
        blameDue("step 3 is next", b, 0, 1, 1, 0, 1, 2, 0);
        b.own(0, -9, 9, -9, 9);
        due("the part's give", NONE, b.call(1, 1));
        blameDue("step 4 is next", b, 0, 2, NONE, 1, 1, 1, 0);
        b.own(1, -9, 9, -9, 9);
        due("the link's give", NONE, b.call(1, 1));
        blameDue("step 5 is last", b, 0, 3, NONE, 1, 1, 1, 0);
        due("one blame for each call", 5, b.about(5));
        due("all of them came to the outside", 5, b.about(6));
    }

    private static void nets() {
        sentence("CALLS", "the blame is caught there, and the number of the net is what the part gives (without factor and more);");
        BlameChains b = Scenes.asking(twoWithFactor(), 0);
        b.net(1, 40);
        due("neither factor nor more", 40, b.call(1, 5));
        due("a call without blame does not give the net", 3, b.call(1, 0));
        due("caught once", 1, b.about(7));
        b.own(1, -999, 999, -39, 39);
        due("the number of the net is beyond the give", NONE, b.call(1, 5));
        blameDue("so the part is blamed", b, 0, 2, NONE, 1, 40, 1, 0);
        blameDue("behind the one that it caught", b, 1, 1, 1, 0, 5, 1, 1);
        b.own(1, -999, 999, 40, 40);
        due("the number of the net is in the give", 40, b.call(1, 5));
        b.link(NONE, 1, -999, 999, 0, 39);
        due("the number of the net is beyond the link's give", NONE, b.call(1, 5));
        blameDue("so the link is blamed", b, 0, 3, NONE, 1, 40, 1, 0);
        sentence("CALLS", "If someone is blamed in that call, and the part has a net, the blame is caught there,");
        b.link(NONE, 1, -4, 4, -9999, 9999);
        due("a blame of its own call is not caught", NONE, b.call(1, 5));
        due("nor counted as caught", 4, b.about(7));
        b.net(0, 5);
        b.own(0, -999, 999, 1, 1);
        due("the net of the part that is blamed catches nothing, that of its caller does", 40, b.call(1, 3));
        due("caught by the caller", 5, b.part(1, 7));
        due("not by the part", 0, b.part(0, 7));
    }

    private static BlameChains twoWithFactor() {
        BlameChains b = Scenes.empty();
        b.add(1, 0);
        b.add(7, 3);
        b.chain(1, 0, 0);
        return b;
    }

    private static void withoutNet() {
        sentence("CALLS", "without a net, the blame goes up: this call ends, and its caller gets the same blame.");
        BlameChains b = Scenes.asking(Scenes.row(3), 0);
        b.own(1, -999, 999, 1, 1);
        b.own(2, -999, 999, 1, 1);
        due("it comes to the outside", NONE, b.call(2, 5));
        due("one blame alone", 1, b.about(5));
        blameDue("the same blame", b, 0, 1, 1, 0, 5, 3, 0);
        b.net(2, 1);
        b.net(1, NONE);
        due("the net above catches it", 1, b.call(2, 5));
        blameDue("the same blame, caught", b, 0, 1, 1, 0, 5, 2, 1);
        b.net(1, 1);
        due("the net next to it is first", 1, b.call(2, 5));
        due("the net above has nothing to catch", 1, b.part(2, 7));
    }

    private static void blamed() {
        sentence("CALLS", "blamed is the caller for 1, the part for 2, and for 3 the link alone (no part, told as NONE).");
        BlameChains b = Scenes.row(2);
        b.link(1, 0, 0, 9, 0, 5);
        due("for 1", NONE, b.call(1, 10));
        due("the caller", 1, b.part(1, 6));
        due("for 2", NONE, b.call(1, 6));
        due("the part", 1, b.part(0, 6));
        due("part 0 is told as 0", 0, b.would(1, 6, 2));
        b.own(0, -9, 8, -9, 9);
        due("for 3", NONE, b.call(1, 9));
        due("for 3 again", NONE, b.call(1, 8));
        due("not the caller", 1, b.part(1, 6));
        due("not the part", 1, b.part(0, 6));
        due("told as NONE", NONE, b.would(1, 9, 2));
        due("its kind", 3, b.would(1, 9, 1));
        due("the outside is no part", NONE, b.call(0, 99));
        due("none blamed", 1, b.part(0, 6));
        due("told as NONE", NONE, b.would(0, 99, 2));
    }

    private static void heights() {
        sentence("CALLS", "Its height is the number of calls that it ended (the one in which it arose, too) until it is caught,"
            + " or comes to the outside.");
        for (int p = 0; p < 10; p++) {
            BlameChains b = Scenes.asking(Scenes.row(10), 0);
            b.call(p, 5);
            due("from part " + p + " to the outside", p + 1, b.blame(0, 4));
            due("would", p + 1, b.would(p, 5, 3));
        }
        for (int catcher = 1; catcher < 10; catcher++) {
            BlameChains b = Scenes.asking(Scenes.row(10), 0);
            b.net(catcher, 3);
            b.call(9, 5);
            blameDue("caught by part " + catcher, b, 0, 1, 1, 0, 5, catcher, 1);
        }
        BlameChains b = Scenes.row(10);
        b.own(9, 0, 0, 0, 0);
        b.call(9, 5);
        due("in the call from the outside", 1, b.blame(0, 4));
    }

    private static void whenItBegins() {
        sentence("CALLS", "A call counts when it begins.");
        BlameChains b = Scenes.row(3);
        b.link(NONE, 2, 0, 9, -9, 9);
        b.call(2, 10);
        due("one that ends at once", 1, b.about(3));
        due("of its part", 1, b.part(2, 5));
        due("none below", 0, b.part(1, 5));
        b.own(1, 0, 8, -9, 9);
        b.call(2, 9);
        due("a part that refuses was called", 1, b.part(1, 5));
        due("the one below it was not", 0, b.part(0, 5));
        b.own(0, 0, 7, -9, 9);
        b.call(2, 8);
        due("all three", 6, b.about(3));
        due("though none came to its end", 3, b.about(6));
        due("the lowest", 1, b.part(0, 5));
        due("from outside", 3, b.about(4));
    }

    private static void callArguments() {
        sentence("Promise 16", "p: part");
        partLimits(RICH, (b, p) -> b.call(p, 0));
        partLimits(Scenes::full, (b, p) -> b.call(p, 0));
        sentence("Promise 16", "Throws IndexOutOfBoundsException if there is no such part");
        refused(INDEX, Scenes::empty, b -> b.call(0, 0));
        refused(INDEX, RICH, b -> b.call(3, 1000));
        refused(INDEX, RICH, b -> b.call(-1, -1000));
        sentence("Promise 16", "x: -999 to 999");
        due("999", 999, Scenes.parts(1).call(0, 999));
        due("-999", -999, Scenes.parts(1).call(0, -999));
        sentence("Promise 16", "Throws IllegalArgumentException if x is out of range");
        limits(ARGUMENT, RICH, -999, 999, (b, x) -> b.call(0, x));
        limits(ARGUMENT, ANEW, -999, 999, (b, x) -> b.call(2, x));
    }

    private static void callAnswers() {
        sentence("Promise 16", "Returns the number that it gives; NONE if blame comes to the outside.");
        BlameChains b = Scenes.asking(Scenes.row(2), 0);
        due("in the ask", 0, b.call(1, 0));
        due("beyond it", NONE, b.call(1, 1));
        b.net(1, 0);
        due("caught", 0, b.call(1, 1));
        due("one of three came to the outside", 1, b.about(6));
    }
}

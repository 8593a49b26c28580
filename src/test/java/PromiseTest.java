/** For each promise of the document its ordinary inputs, the edges that it names, and wrong inputs. */
public final class PromiseTest {
    private static final int NONE = BlameChains.NONE;
    private static final int OWN = NONE - 1;

    private PromiseTest() {
    }

    public static void main(String[] args) {
        promise1();
        promise2and3();
        promise4();
        promise5();
        promise5leftOut();
        promise6();
        promise7();
        promise8();
        promise9();
        promise10();
        promise11();
        promise12();
        promise13();
        promise14();
        promise15();
        promise16steps();
        promise16chains();
        promise16nets();
        promise17();
        promise18();
        promise19();
        promise20();
        promise21();
        promise22();
        promise23();
        promise24();
        promise24wrong();
        promise24copy();
        promise25();
        promise26and27();
        Checks.end("PromiseTest");
    }

    private static void write(BlameChains b, String text) {
        b.clearText();
        for (int i = 0; i < text.length(); i++) {
            b.append(text.charAt(i));
        }
    }

    /** Part 0: 2z+1 with ask -10..10 and give -15..15; part 1: 3z-4, chained to 0 with 2; part 2: -z, chained to 1 with -1. */
    private static BlameChains three() {
        BlameChains b = new BlameChains();
        b.add(2, 1);
        b.own(0, -10, 10, -15, 15);
        b.add(3, -4);
        b.chain(1, 0, 2);
        b.add(-1, 0);
        b.chain(2, 1, -1);
        return b;
    }

    private static void promise1() {
        BlameChains b = new BlameChains();
        Checks.due("NONE", -10000, BlameChains.NONE);
        for (int what = 0; what <= 8; what++) {
            Checks.due("1: about " + what, 0, b.about(what));
        }
        Checks.due("1: clearText", 0, b.clearText());
        Checks.due("1: holes", 0, b.holes());
        Checks.due("1: simulate", 0, b.simulate(7, 99));
        Checks.index("1: part", () -> b.part(0, 0));
        Checks.state("1: undo", () -> b.undo());
        Checks.state("1: restore 0", () -> b.restore(0));
        Checks.state("1: restore 1", () -> b.restore(1));
    }

    private static void promise2and3() {
        BlameChains b = new BlameChains();
        Checks.argument("2: -1", () -> b.append(-1));
        Checks.argument("2: 256", () -> b.append(256));
        Checks.due("2: 0", 1, b.append(0));
        Checks.due("2: 255", 2, b.append(255));
        Checks.due("3: two", 2, b.clearText());
        Checks.due("3: none", 0, b.clearText());
        for (int i = 1; i <= 120; i++) {
            Checks.due("2: append", i, b.append('C'));
        }
        Checks.state("2: the 121st", () -> b.append('C'));
        Checks.argument("2: a wrong 121st", () -> b.append(256));
        Checks.due("3: 120", 120, b.clearText());
        Checks.due("2: after clearText", 1, b.append('C'));
        Checks.due("2: the text is no state", NONE, b.errorPosition());
        Checks.state("2: append is no action", () -> b.undo());
    }

    private static void error(String text, int want) {
        BlameChains b = new BlameChains();
        write(b, text);
        Checks.due("4: '" + text + "'", want, b.errorPosition());
        Checks.due("4: keeps '" + text + "'", text.length(), b.clearText());
    }

    private static void promise4() {
        error("", 0);
        error("C", NONE);
        error("c", 0);
        error(" C", 0);
        error("CC", 1);
        error("C ", 1);
        error("Cz", 1);
        error("Cn", 2);
        error("Cn0", 2);
        error("Cn+", 3);
        error("Cn+1", 3);
        error("Cn+0", 4);
        error("Cn+0+", 4);
        error("Cn-09", 5);
        error("Cn-0999", 5);
        error("Cn-09+", 6);
        error("Cn-09+9", 7);
        error("Cn-09+99", NONE);
        error("Cn-00-00", NONE);
        error("Cn+01+00 ", 8);
        error("Cn+01+00n", 9);
        error("Cs", 2);
        error("Cs+", 2);
        error("Cs0", 3);
        error("Cs0-", 3);
        error("Cs99", 4);
        error("Cs991", 4);
        error("Cs99-99", NONE);
        error("Cs00+0:", 6);
        error("Co", 2);
        error("Co9", 3);
        error("Co9+00+00+00", 12);
        error("Co9+00+00+00+0", 14);
        error("Co9+00+00+00+00", NONE);
        error("Co9+99-99+99-99", NONE);
        error("Co9+00+00+00+0/", 14);
        error("Ck", 2);
        error("Ck5", 2);
        error("Ck+99", NONE);
        error("Ck+9a", 4);
        error("Cx", 2);
        error("Cxa", 2);
        error("Cx9", NONE);
        error("Cx99", 3);
        error("Cn+01+00s00+00o0+00+00+00+00k-05x0", NONE);
        error("Cx0x0x0X0", 7);
    }

    private static void promise5() {
        BlameChains b = new BlameChains();
        Checks.state("5: no text", () -> b.load());
        write(b, "Cn+02+01o0-10+10-15+15n+03-04s10+02n-01+00s21-01k+05k+50k+03");
        Checks.due("5: load", 0, b.load());
        Checks.due("5: parts", 3, b.about(0));
        Checks.due("5: contracts", 1, b.about(1));
        Checks.due("5: calls", 9, b.about(3));
        Checks.due("5: calls from outside", 3, b.about(4));
        Checks.due("5: arisen", 1, b.about(5));
        Checks.due("5: number", 51, b.blame(0, 3));
        Checks.due("5: factor", -1, b.part(2, 0));
        Checks.due("5: more", -4, b.part(1, 1));
        Checks.due("5: step", -1, b.part(2, 3));
        Checks.due("5: ask", -10, b.contract(OWN, 0, 0));
        Checks.due("5: give", 15, b.contract(OWN, 0, 3));
        Checks.state("5: nothing remembered", () -> b.undo());
        b.save(0);
        b.save(1);
        b.add(1, 1);
        b.link(NONE, 0, 0, 0, 0, 0);
        b.append('x');
        Checks.state("5: not a plan any more", () -> b.load());
        Checks.due("5: a thrown load changes nothing", 4, b.about(0));
        b.append('0');
        Checks.due("5: load again", 0, b.load());
        Checks.due("5: as new", 3, b.about(0));
        Checks.due("5: dropped", 0, b.about(1));
        Checks.due("5: no links", 0, b.about(2));
        Checks.due("5: counts anew", 9, b.about(3));
        Checks.due("5: counts anew, blames", 1, b.about(5));
        Checks.due("5: one blame", NONE, b.blame(1, 0));
        Checks.state("5: undo", () -> b.undo());
        Checks.state("5: slot 0", () -> b.restore(0));
        Checks.state("5: slot 1", () -> b.restore(1));
        Checks.due("5: keeps the text", 62, b.clearText());
        b.own(0, -10, 10, -15, 15);
        b.net(2, 5);
        b.call(2, 50);
        b.call(2, 7);
        Checks.due("5: caught", 2, b.part(2, 7));
        b.append('C');
        Checks.due("5: empty plan", 0, b.load());
        for (int what = 0; what <= 8; what++) {
            Checks.due("5: about " + what, 0, b.about(what));
        }
        Checks.due("5: no blame", NONE, b.blame(0, 0));
        for (int p = 0; p < 3; p++) {
            b.add(1, 0);
            Checks.due("5: net of " + p, NONE, b.part(p, 4));
            for (int what = 5; what <= 7; what++) {
                Checks.due("5: counts of " + p + ", " + what, 0, b.part(p, what));
            }
        }
    }

    private static void promise5leftOut() {
        BlameChains b = new BlameChains();
        write(b, "Ck+01x0s10+00o0+00+00+00+00");
        Checks.due("5: without parts", 4, b.load());
        write(b, "Cn+01+00n-00+07s10-05s01+00s11+00s20+00o1+05-05+00+00o1+00+00+05-05o2+00+00+00+00o1-05+05-99+99k+00x0x1x1");
        Checks.due("5: left out", 8, b.load());
        Checks.due("5: step", -5, b.part(1, 3));
        Checks.due("5: minus zero", 0, b.part(1, 0));
        Checks.due("5: calls", 2, b.about(3));
        Checks.due("5: x drops", 0, b.about(1));
        StringBuilder many = new StringBuilder("C");
        for (int i = 0; i < 12; i++) {
            many.append("n+01+00");
        }
        write(b, many.append("k-99").toString());
        Checks.due("5: two too many", 2, b.load());
        Checks.due("5: ten", 10, b.about(0));
        Checks.due("5: k calls the last one", 1, b.part(9, 5));
        write(b, "Cn+01+00n+02+00k+01n+03+00k-01k-02");
        Checks.due("5: all done", 0, b.load());
        Checks.due("5: the last one at that time", 1, b.part(1, 5));
        Checks.due("5: the last one later", 2, b.part(2, 5));
        Checks.due("5: not the first one", 0, b.part(0, 5));
    }

    private static void promise6() {
        BlameChains b = three();
        Checks.argument("6: -1", () -> b.about(-1));
        Checks.argument("6: 9", () -> b.about(9));
        b.link(NONE, 2, -50, 50, -99, 99);
        b.link(2, 1, -50, 50, -99, 99);
        b.own(2, -100, 100, -99, 99);
        b.call(2, 5);
        b.call(2, 20);
        b.call(2, 51);
        b.net(2, 9);
        b.call(2, 20);
        int[] due = {3, 2, 2, 10, 4, 3, 2, 1, 1};
        for (int what = 0; what < due.length; what++) {
            Checks.due("6: about " + what, due[what], b.about(what));
        }
        b.own(2, -100, 100, 0, 0);
        b.call(2, 4);
        Checks.due("6: last kind 2", 2, b.about(8));
        b.link(NONE, 2, -999, 999, 0, 0);
        b.call(2, 200);
        Checks.due("6: last kind 3", 3, b.about(8));
    }

    private static void promise7() {
        BlameChains b = three();
        Checks.index("7: -1", () -> b.part(-1, 0));
        Checks.index("7: 3", () -> b.part(3, 0));
        Checks.index("7: NONE", () -> b.part(NONE, 0));
        Checks.index("7: index first", () -> b.part(3, 9));
        Checks.argument("7: what -1", () -> b.part(0, -1));
        Checks.argument("7: what 9", () -> b.part(0, 9));
        b.net(2, -7);
        b.call(2, 5);
        b.call(2, 50);
        b.call(1, 0);
        int[][] due = {
            {2, 1, NONE, NONE, NONE, 3, 0, 0, 1},
            {3, -4, 0, 2, NONE, 3, 1, 0, 2},
            {-1, 0, 1, -1, -7, 2, 0, 1, 3},
        };
        for (int p = 0; p < due.length; p++) {
            for (int what = 0; what < due[p].length; what++) {
                Checks.due("7: part " + p + " " + what, due[p][what], b.part(p, what));
            }
        }
    }

    private static void promise8() {
        BlameChains b = three();
        b.link(NONE, 0, 1, 2, 3, 4);
        b.link(2, 0, 5, 6, 7, 8);
        for (int what = 0; what < 4; what++) {
            Checks.due("8: outside " + what, 1 + what, b.contract(NONE, 0, what));
            Checks.due("8: from 2 " + what, 5 + what, b.contract(2, 0, what));
        }
        Checks.due("8: own", 10, b.contract(OWN, 0, 1));
        Checks.index("8: no own one", () -> b.contract(OWN, 1, 0));
        Checks.index("8: no such link's", () -> b.contract(1, 0, 0));
        Checks.index("8: no such caller", () -> b.contract(3, 0, 0));
        Checks.index("8: caller 10", () -> b.contract(10, 0, 0));
        Checks.index("8: caller 11", () -> b.contract(11, 0, 0));
        Checks.index("8: caller -1", () -> b.contract(-1, 0, 0));
        Checks.index("8: caller below OWN", () -> b.contract(OWN - 1, 0, 0));
        Checks.index("8: itself", () -> b.contract(0, 0, 0));
        Checks.index("8: smaller caller", () -> b.contract(0, 2, 0));
        Checks.index("8: part 3", () -> b.contract(NONE, 3, 0));
        Checks.index("8: part -1", () -> b.contract(OWN, -1, 0));
        Checks.index("8: part 10", () -> b.contract(OWN, 10, 0));
        Checks.index("8: part far off", () -> b.contract(OWN, Integer.MAX_VALUE, 0));
        Checks.index("8: index first", () -> b.contract(OWN, 1, 4));
        Checks.argument("8: what -1", () -> b.contract(OWN, 0, -1));
        Checks.argument("8: what 4", () -> b.contract(NONE, 0, 4));
    }

    private static void promise9() {
        BlameChains b = three();
        Checks.argument("9: k -1", () -> b.blame(-1, 0));
        Checks.argument("9: k 10", () -> b.blame(10, 0));
        Checks.argument("9: what -1", () -> b.blame(0, -1));
        Checks.argument("9: what 6", () -> b.blame(0, 6));
        Checks.due("9: none", NONE, b.blame(0, 0));
        b.net(2, -7);
        b.call(2, 50);
        int[] due = {1, 1, 0, 51, 2, 1};
        for (int what = 0; what < due.length; what++) {
            Checks.due("9: caught " + what, due[what], b.blame(0, what));
        }
        b.link(NONE, 2, 0, 0, 0, 0);
        for (int i = 1; i <= 10; i++) {
            b.call(2, i);
            Checks.due("9: number " + i, i, b.blame(0, 3));
            Checks.due("9: the first one " + i, i < 10 ? 51 : NONE, i < 10 ? b.blame(i, 3) : NONE);
        }
        int[] later = {1, NONE, 2, 10, 1, 0};
        for (int what = 0; what < later.length; what++) {
            Checks.due("9: from outside " + what, later[what], b.blame(0, what));
        }
        for (int k = 0; k < 10; k++) {
            Checks.due("9: order " + k, 10 - k, b.blame(k, 3));
        }
        b.undo();
        Checks.due("9: undo brings the eleventh back", 51, b.blame(9, 3));
    }

    private static void promise10() {
        BlameChains b = new BlameChains();
        Checks.argument("10: factor 10", () -> b.add(10, 0));
        Checks.argument("10: factor -10", () -> b.add(-10, 0));
        Checks.argument("10: more 100", () -> b.add(0, 100));
        Checks.argument("10: more -100", () -> b.add(0, -100));
        Checks.state("10: thrown calls are no actions", () -> b.undo());
        for (int i = 0; i < 10; i++) {
            Checks.due("10: add", i, b.add(i % 2 == 0 ? 9 : -9, i % 2 == 0 ? -99 : 99));
        }
        Checks.state("10: the eleventh", () -> b.add(0, 0));
        Checks.argument("10: a wrong eleventh", () -> b.add(10, 0));
        Checks.due("10: ten", 10, b.about(0));
        Checks.due("10: factor", -9, b.part(9, 0));
        Checks.due("10: more", -99, b.part(8, 1));
        Checks.due("10: not chained", NONE, b.part(9, 2));
        b.chain(9, 8, 1);
        b.net(9, 5);
        b.own(9, 0, 0, 0, 0);
        b.call(9, 0);
        b.undo();
        b.undo();
        b.undo();
        b.undo();
        b.undo();
        Checks.due("10: again", 9, b.add(1, 2));
        Checks.due("10: not chained again", NONE, b.part(9, 2));
        Checks.due("10: no step", NONE, b.part(9, 3));
        Checks.due("10: no net", NONE, b.part(9, 4));
        Checks.due("10: not called", 0, b.part(9, 5));
        Checks.due("10: no contract", 0, b.about(1));
    }

    private static void promise11() {
        BlameChains b = new BlameChains();
        Checks.index("11: no parts", () -> b.chain(0, NONE, 0));
        for (int i = 0; i < 10; i++) {
            b.add(1, 0);
        }
        Checks.index("11: p 10", () -> b.chain(10, 0, 0));
        Checks.index("11: p -1", () -> b.chain(-1, NONE, 0));
        Checks.index("11: index first", () -> b.chain(10, 10, 100));
        Checks.argument("11: itself", () -> b.chain(1, 1, 0));
        Checks.argument("11: a greater one", () -> b.chain(1, 2, 0));
        Checks.argument("11: -1", () -> b.chain(1, -1, 0));
        Checks.argument("11: OWN", () -> b.chain(1, OWN, 0));
        Checks.argument("11: step 100", () -> b.chain(1, 0, 100));
        Checks.argument("11: step -100", () -> b.chain(1, 0, -100));
        Checks.argument("11: step without next", () -> b.chain(1, NONE, 100));
        for (int p = 1; p < 10; p++) {
            Checks.due("11: chain", p + 1, b.chain(p, p - 1, p % 2 == 0 ? 99 : -99));
        }
        Checks.due("11: step", -99, b.part(9, 3));
        Checks.due("11: calls ten parts", 5 - 99, b.call(9, 5));
        Checks.due("11: all called", 10, b.about(3));
        Checks.due("11: another way", 3, b.chain(9, 1, 0));
        Checks.due("11: not any more", 1, b.chain(1, NONE, -99));
        Checks.due("11: no step", NONE, b.part(1, 3));
        Checks.due("11: no next", NONE, b.part(1, 2));
        Checks.due("11: not chained twice", 1, b.chain(1, NONE, 0));
        Checks.due("11: chained ones follow", 2, b.part(9, 8));
    }

    private static void promise12() {
        BlameChains b = new BlameChains();
        Checks.index("12: no part", () -> b.net(0, 0));
        Checks.index("12: index first", () -> b.net(0, 100));
        b.add(1, 0);
        Checks.argument("12: 100", () -> b.net(0, 100));
        Checks.argument("12: -100", () -> b.net(0, -100));
        Checks.argument("12: OWN", () -> b.net(0, OWN));
        Checks.index("12: part 1", () -> b.net(1, 0));
        Checks.index("12: part -1", () -> b.net(-1, 0));
        Checks.due("12: first", NONE, b.net(0, 99));
        Checks.due("12: second", 99, b.net(0, -99));
        Checks.due("12: third", -99, b.net(0, 0));
        Checks.due("12: taken away", 0, b.net(0, NONE));
        Checks.due("12: none", NONE, b.net(0, NONE));
        Checks.due("12: actions all", 5, b.undo());
        Checks.due("12: a net of an unchained part catches nothing", NONE, netAlone());
    }

    private static int netAlone() {
        BlameChains b = new BlameChains();
        b.add(1, 0);
        b.net(0, 5);
        b.own(0, 0, 0, 0, 0);
        return b.call(0, 1);
    }

    private static void promise13() {
        BlameChains b = new BlameChains();
        Checks.index("13: no part", () -> b.own(0, 0, 0, 0, 0));
        Checks.index("13: index first", () -> b.own(0, 5, 4, 0, 0));
        b.add(1, 0);
        b.add(1, 0);
        Checks.index("13: -1", () -> b.own(-1, 0, 0, 0, 0));
        Checks.index("13: 2", () -> b.own(2, 0, 0, 0, 0));
        Checks.argument("13: ask turned", () -> b.own(0, 5, 4, 0, 0));
        Checks.argument("13: give turned", () -> b.own(0, 0, 0, 5, 4));
        Checks.argument("13: ask low", () -> b.own(0, -10000, 0, 0, 0));
        Checks.argument("13: ask high", () -> b.own(0, 0, 10000, 0, 0));
        Checks.argument("13: give low", () -> b.own(0, 0, 0, -10000, 0));
        Checks.argument("13: give high", () -> b.own(0, 0, 0, 0, 10000));
        Checks.argument("13: all beyond", () -> b.own(0, 10000, 10000, 10000, 10000));
        Checks.due("13: the widest", 1, b.own(0, -9999, 9999, -9999, 9999));
        Checks.due("13: instead", 1, b.own(0, 9999, 9999, -9999, -9999));
        Checks.due("13: changed", -9999, b.contract(OWN, 0, 3));
        Checks.due("13: second", 2, b.own(1, 0, 0, 0, 0));
        Checks.due("13: none of links", 0, b.about(2));
    }

    private static void promise14() {
        BlameChains b = new BlameChains();
        Checks.index("14: no part", () -> b.link(NONE, 0, 0, 0, 0, 0));
        for (int i = 0; i < 3; i++) {
            b.add(1, 0);
        }
        Checks.index("14: index first", () -> b.link(7, 3, 5, 4, 0, 0));
        Checks.index("14: part -1", () -> b.link(NONE, -1, 0, 0, 0, 0));
        Checks.argument("14: itself", () -> b.link(1, 1, 0, 0, 0, 0));
        Checks.argument("14: a smaller one", () -> b.link(0, 1, 0, 0, 0, 0));
        Checks.argument("14: no such caller", () -> b.link(3, 1, 0, 0, 0, 0));
        Checks.argument("14: OWN", () -> b.link(OWN, 1, 0, 0, 0, 0));
        Checks.argument("14: -1", () -> b.link(-1, 1, 0, 0, 0, 0));
        Checks.argument("14: 10", () -> b.link(10, 1, 0, 0, 0, 0));
        Checks.argument("14: ask turned", () -> b.link(2, 1, 1, 0, 0, 0));
        Checks.argument("14: give turned", () -> b.link(2, 1, 0, 0, 1, 0));
        Checks.argument("14: ask low", () -> b.link(2, 1, -10000, 0, 0, 0));
        Checks.argument("14: ask high", () -> b.link(2, 1, 0, 10000, 0, 0));
        Checks.argument("14: give low", () -> b.link(2, 1, 0, 0, -10000, 0));
        Checks.argument("14: give high", () -> b.link(2, 1, 0, 0, 0, 10000));
        Checks.due("14: outside", 1, b.link(NONE, 0, -9999, 9999, -9999, 9999));
        Checks.due("14: part", 2, b.link(2, 0, 0, 0, 0, 0));
        Checks.due("14: another part", 3, b.link(1, 0, 0, 0, 0, 0));
        Checks.due("14: instead", 3, b.link(2, 0, 1, 2, 3, 4));
        Checks.due("14: changed", 4, b.contract(2, 0, 3));
        Checks.due("14: none of parts", 0, b.about(1));
        b.chain(2, 1, 0);
        Checks.due("14: only its own link counts", 0, b.call(2, 0));
    }

    private static void promise15() {
        BlameChains b = three();
        b.link(NONE, 0, 0, 0, 0, 0);
        b.link(2, 1, 0, 0, 0, 0);
        Checks.index("15: no own one", () -> b.drop(OWN, 1));
        Checks.index("15: no link's", () -> b.drop(1, 0));
        Checks.index("15: turned", () -> b.drop(1, 2));
        Checks.index("15: part 3", () -> b.drop(NONE, 3));
        Checks.index("15: part -1", () -> b.drop(NONE, -1));
        Checks.index("15: caller -1", () -> b.drop(-1, 0));
        Checks.due("15: outside", 2, b.drop(NONE, 0));
        Checks.index("15: outside again", () -> b.drop(NONE, 0));
        Checks.due("15: own", 1, b.drop(OWN, 0));
        Checks.index("15: own again", () -> b.drop(OWN, 0));
        Checks.due("15: link", 0, b.drop(2, 1));
        Checks.due("15: nothing asked any more", 101 * 2 + 1, b.call(0, 101));
        b.undo();
        b.undo();
        Checks.due("15: undone", 1, b.about(2));
    }

    private static void blameIs(BlameChains b, int kind, int caller, int part, int number, int height) {
        int[] due = {kind, caller, part, number, height};
        for (int what = 0; what < due.length; what++) {
            Checks.due("16: blame " + what, due[what], b.blame(0, what));
        }
    }

    private static void promise16steps() {
        BlameChains b = new BlameChains();
        Checks.index("16: no part", () -> b.call(0, 0));
        Checks.index("16: index first", () -> b.call(0, 1000));
        b.add(2, 0);
        Checks.argument("16: 1000", () -> b.call(0, 1000));
        Checks.argument("16: -1000", () -> b.call(0, -1000));
        Checks.index("16: part -1", () -> b.call(-1, 0));
        Checks.index("16: part 1", () -> b.call(1, 0));
        Checks.due("16: thrown calls count nothing", 0, b.about(3));
        Checks.due("16: 999", 1998, b.call(0, 999));
        Checks.due("16: -999", -1998, b.call(0, -999));
        b.own(0, -5, 5, -8, 8);
        Checks.due("16: ask low", -8, b.call(0, -4));
        Checks.due("16: own ask", NONE, b.call(0, 6));
        blameIs(b, 1, NONE, 0, 6, 1);
        Checks.due("16: give", NONE, b.call(0, 5));
        blameIs(b, 2, NONE, 0, 10, 1);
        Checks.due("16: the part is blamed", 1, b.part(0, 6));
        b.link(NONE, 0, -6, 6, -6, 6);
        Checks.due("16: link's ask", NONE, b.call(0, 7));
        blameIs(b, 1, NONE, 0, 7, 1);
        Checks.due("16: link's ask is wider", NONE, b.call(0, -6));
        blameIs(b, 3, NONE, 0, -6, 1);
        Checks.due("16: part's give comes first", NONE, b.call(0, -5));
        blameIs(b, 2, NONE, 0, -10, 1);
        Checks.due("16: link's give is narrower", NONE, b.call(0, 4));
        blameIs(b, 3, NONE, 0, 8, 1);
        Checks.due("16: on the bound", 6, b.call(0, 3));
        b.drop(OWN, 0);
        Checks.due("16: link's give alone", NONE, b.call(0, 4));
        blameIs(b, 2, NONE, 0, 8, 1);
        Checks.due("16: links are no part", 3, b.part(0, 6));
        Checks.due("16: all counted", 11, b.part(0, 5));
    }

    private static void promise16chains() {
        BlameChains b = three();
        Checks.due("16: chain", -35, b.call(2, 5));
        Checks.due("16: blame goes up", NONE, b.call(2, 50));
        blameIs(b, 1, 1, 0, 51, 3);
        Checks.due("16: not caught", 0, b.blame(0, 5));
        Checks.due("16: the caller is blamed", 1, b.part(1, 6));
        Checks.due("16: give of the lowest", NONE, b.call(1, 6));
        blameIs(b, 2, 1, 0, 17, 2);
        b.link(1, 0, -8, 8, -9, 9);
        Checks.due("16: link between parts", NONE, b.call(1, 7));
        blameIs(b, 1, 1, 0, 9, 2);
        Checks.due("16: link's give", NONE, b.call(1, 3));
        blameIs(b, 3, 1, 0, 11, 2);
        Checks.due("16: not over this link", 11, b.call(0, 5));
        b.link(2, 0, 0, 0, 0, 0);
        Checks.due("16: the other link", -5, b.call(2, 0));
        BlameChains wide = new BlameChains();
        wide.add(-9, 99);
        wide.add(9, -99);
        wide.chain(1, 0, 99);
        Checks.due("16: low bound", -9999, wide.call(1, 999));
        Checks.due("16: high bound", 9999, wide.call(1, -999));
        wide.own(1, -999, 999, 9999, 9999);
        Checks.due("16: the bound is what is looked at", 9999, wide.call(1, -999));
        wide.own(0, -9999, 9999, -9999, -8000);
        Checks.due("16: lower part's number", NONE, wide.call(1, 0));
        blameIs(wide, 2, 1, 0, -9 * 99 + 99, 2);
    }

    private static void promise16nets() {
        BlameChains b = three();
        b.net(1, 40);
        Checks.due("16: net", -40, b.call(2, 50));
        blameIs(b, 1, 1, 0, 51, 1);
        Checks.due("16: caught", 1, b.blame(0, 5));
        Checks.due("16: who caught", 1, b.part(1, 7));
        Checks.due("16: nothing came out", 0, b.about(6));
        b.own(1, -999, 999, 0, 39);
        Checks.due("16: the net's number is looked at", NONE, b.call(2, 50));
        blameIs(b, 2, 2, 1, 40, 2);
        Checks.due("16: two arose", 1, b.blame(1, 5));
        Checks.due("16: the lower one was first", 51, b.blame(1, 3));
        b.net(2, -3);
        Checks.due("16: two nets", -3, b.call(2, 50));
        Checks.due("16: both caught", 4, b.about(7));
        b.net(1, NONE);
        Checks.due("16: the upper net", -3, b.call(2, 50));
        blameIs(b, 1, 1, 0, 51, 2);
        b.link(NONE, 2, -9, 9, -9999, 9999);
        Checks.due("16: a net catches no blame over its own link", NONE, b.call(2, 50));
        blameIs(b, 1, NONE, 2, 50, 1);
        Checks.due("16: so nothing caught", 5, b.about(7));
    }

    private static void promise17() {
        BlameChains b = new BlameChains();
        Checks.state("17: none", () -> b.undo());
        b.add(1, 0);
        b.add(2, 0);
        b.own(1, 0, 0, 0, 0);
        b.call(1, 5);
        b.net(1, NONE);
        Checks.due("17: net", 4, b.undo());
        Checks.due("17: call still there", 1, b.about(5));
        Checks.due("17: call", 3, b.undo());
        Checks.due("17: calls back", 0, b.about(3));
        Checks.due("17: calls from outside back", 0, b.about(4));
        Checks.due("17: what came out back", 0, b.about(6));
        Checks.due("17: blames back", NONE, b.blame(0, 0));
        Checks.due("17: part's calls back", 0, b.part(1, 5));
        Checks.due("17: own", 2, b.undo());
        Checks.due("17: contracts back", 0, b.about(1));
        Checks.due("17: add", 1, b.undo());
        Checks.index("17: part is gone", () -> b.part(1, 0));
        b.append('C');
        Checks.due("17: add", 0, b.undo());
        Checks.due("17: the text stays", 1, b.clearText());
        Checks.state("17: undo is no action", () -> b.undo());
        b.add(1, 0);
        for (int i = 0; i < 20; i++) {
            b.net(0, i);
        }
        for (int i = 13; i >= 0; i--) {
            Checks.due("17: fourteen", i, b.undo());
        }
        Checks.due("17: the oldest ones are forgotten", 5, b.part(0, 4));
        Checks.state("17: not fifteen", () -> b.undo());
        Checks.argument("17: a thrown call", () -> b.net(0, 100));
        Checks.state("17: is no action", () -> b.undo());
        b.chain(0, NONE, 0);
        b.link(NONE, 0, 0, 0, 0, 0);
        b.drop(NONE, 0);
        Checks.due("17: drop", 2, b.undo());
        Checks.due("17: drop back", 1, b.about(2));
        Checks.due("17: link", 1, b.undo());
        Checks.due("17: chain", 0, b.undo());
    }

    private static void would(BlameChains b, int p, int x, int... due) {
        for (int what = 0; what < due.length; what++) {
            Checks.due("18: would(" + p + ", " + x + ", " + what + ")", due[what], b.would(p, x, what));
        }
    }

    private static void promise18() {
        BlameChains b = three();
        Checks.index("18: part 3", () -> b.would(3, 0, 0));
        Checks.index("18: index first", () -> b.would(-1, 1000, 5));
        Checks.argument("18: 1000", () -> b.would(0, 1000, 0));
        Checks.argument("18: -1000", () -> b.would(0, -1000, 0));
        Checks.argument("18: what 5", () -> b.would(0, 0, 5));
        Checks.argument("18: what -1", () -> b.would(0, 0, -1));
        would(b, 2, 6, -41, 0, NONE, 0, 0);
        would(b, 2, 7, NONE, 2, 0, 3, 0);
        would(b, 2, 50, NONE, 1, 1, 3, 0);
        would(b, 0, 999, NONE, 1, NONE, 1, 0);
        would(b, 0, -999, NONE, 1, NONE, 1, 0);
        b.net(1, 40);
        would(b, 2, 7, -40, 0, NONE, 0, 1);
        b.own(2, -999, 999, -39, 39);
        would(b, 2, 7, NONE, 2, 2, 1, 1);
        b.link(2, 1, -10, 10, -39, 39);
        would(b, 2, 7, NONE, 2, 1, 2, 1);
        b.own(1, -999, 999, -999, 999);
        would(b, 2, 7, NONE, 3, NONE, 2, 1);
        would(b, 2, 6, NONE, 3, NONE, 2, 0);
        b.net(2, 0);
        would(b, 2, 7, 0, 0, NONE, 0, 2);
        Checks.due("18: changes nothing", 0, b.about(3));
        Checks.due("18: no blame", NONE, b.blame(0, 0));
        Checks.due("18: is no action", 10, b.undo());
        b.call(2, 7);
        would(b, 2, 7, NONE, 3, NONE, 2, 1);
        would(b, 2, 5, 0 - (3 * 13 - 4), 0, NONE, 0, 0);
    }

    private static void promise19() {
        BlameChains b = three();
        b.own(1, -10, 10, -15, 15);
        b.link(NONE, 0, -9, 10, -15, 16);
        b.link(1, 0, -11, 10, -15, 15);
        b.link(2, 0, -10, 11, -15, 15);
        b.link(2, 1, -10, 10, -16, 15);
        b.link(NONE, 1, -10, 10, -15, 14);
        Checks.due("19: itself", 1, b.stands(OWN, 0, OWN, 0));
        Checks.due("19: the same", 1, b.stands(OWN, 0, OWN, 1));
        Checks.due("19: asks less, gives less", 1, b.stands(OWN, 0, NONE, 0));
        Checks.due("19: turned", 0, b.stands(NONE, 0, OWN, 0));
        Checks.due("19: low ask", 0, b.stands(OWN, 0, 1, 0));
        Checks.due("19: low ask turned", 1, b.stands(1, 0, OWN, 0));
        Checks.due("19: high ask", 0, b.stands(OWN, 0, 2, 0));
        Checks.due("19: high ask turned", 1, b.stands(2, 0, OWN, 1));
        Checks.due("19: low give", 1, b.stands(OWN, 1, 2, 1));
        Checks.due("19: low give turned", 0, b.stands(2, 1, OWN, 0));
        Checks.due("19: high give", 0, b.stands(OWN, 0, NONE, 1));
        Checks.due("19: high give turned", 1, b.stands(NONE, 1, OWN, 0));
        Checks.index("19: no one", () -> b.stands(OWN, 2, OWN, 0));
        Checks.index("19: no other", () -> b.stands(OWN, 0, NONE, 2));
        Checks.index("19: part 3", () -> b.stands(OWN, 3, OWN, 0));
        Checks.index("19: part -1", () -> b.stands(OWN, 0, OWN, -1));
        Checks.index("19: caller 10", () -> b.stands(10, 0, OWN, 0));
        Checks.index("19: no caller", () -> b.stands(OWN, 0, 0, 0));
    }

    private static void promise20() {
        BlameChains b = three();
        Checks.due("20: no links", 0, b.holes());
        b.link(1, 0, -10, 10, -15, 15);
        Checks.due("20: the same", 0, b.holes());
        b.link(1, 0, -11, 10, -15, 15);
        Checks.due("20: one", 1, b.holes());
        b.link(2, 0, -10, 10, -15, 14);
        Checks.due("20: two", 2, b.holes());
        b.link(NONE, 0, 0, 0, 0, 0);
        Checks.due("20: the outside too", 3, b.holes());
        b.link(2, 1, 0, 0, 0, 0);
        Checks.due("20: without an own one", 3, b.holes());
        b.own(0, -11, 10, 0, 0);
        Checks.due("20: the link may ask more", 0, b.holes());
        b.drop(OWN, 0);
        Checks.due("20: dropped", 0, b.holes());
    }

    private static void promise21() {
        BlameChains b = three();
        Checks.index("21: part 3", () -> b.firstBad(3, 0, 1));
        Checks.index("21: index first", () -> b.firstBad(-1, 1000, 0));
        Checks.argument("21: low 1000", () -> b.firstBad(0, 1000, 1));
        Checks.argument("21: low -1000", () -> b.firstBad(0, -1000, 1));
        Checks.argument("21: many 0", () -> b.firstBad(0, 0, 0));
        Checks.argument("21: many 201", () -> b.firstBad(0, 0, 201));
        Checks.due("21: the first", -50, b.firstBad(2, -50, 100));
        Checks.due("21: later", 7, b.firstBad(2, 0, 100));
        Checks.due("21: not among seven", NONE, b.firstBad(2, 0, 7));
        Checks.due("21: among eight", 7, b.firstBad(2, 0, 8));
        Checks.due("21: one", 7, b.firstBad(2, 7, 1));
        b.own(0, -9999, 1198, -9999, 9999);
        Checks.due("21: up to 1198", NONE, b.firstBad(0, 999, 200));
        b.own(0, -9999, 1197, -9999, 9999);
        Checks.due("21: above 999", 1198, b.firstBad(0, 999, 200));
        Checks.due("21: not so many", NONE, b.firstBad(0, 999, 199));
        b.net(1, 0);
        Checks.due("21: caught is not bad", NONE, b.firstBad(1, 999, 200));
        Checks.due("21: from -999 on", NONE, b.firstBad(0, -999, 200));
        Checks.due("21: changes nothing", 0, b.about(3));
    }

    private static void promise22() {
        BlameChains b = three();
        Checks.index("22: part 3", () -> b.mostBlamed(3, 0, 1));
        Checks.index("22: index first", () -> b.mostBlamed(-1, 1000, 0));
        Checks.argument("22: low 1000", () -> b.mostBlamed(0, 1000, 1));
        Checks.argument("22: low -1000", () -> b.mostBlamed(0, -1000, 1));
        Checks.argument("22: many 0", () -> b.mostBlamed(0, 0, 0));
        Checks.argument("22: many 201", () -> b.mostBlamed(0, 0, 201));
        Checks.due("22: none", NONE, b.mostBlamed(2, 0, 7));
        Checks.due("22: one", 0, b.mostBlamed(2, 7, 1));
        Checks.due("22: part 0 for its give", 0, b.mostBlamed(2, 0, 9));
        Checks.due("22: as often", 0, b.mostBlamed(2, 7, 6));
        Checks.due("22: more often", 1, b.mostBlamed(2, 7, 7));
        Checks.due("22: the outside does not count", NONE, b.mostBlamed(0, 11, 200));
        b.net(1, 0);
        Checks.due("22: caught counts", 1, b.mostBlamed(2, 10, 200));
        b.own(1, -9999, 9999, 1, 1);
        Checks.due("22: each gives what is not in its give", 0, b.mostBlamed(2, 7, 2));
        b.net(2, 5);
        b.own(2, -9999, 9999, 1, 1);
        Checks.due("22: among three the lowest", 0, b.mostBlamed(2, 7, 1));
        Checks.due("22: twice", 1, b.mostBlamed(2, 10, 1));
        b.link(2, 1, 0, 0, 0, 0);
        Checks.due("22: the caller two times", 2, b.mostBlamed(2, 10, 1));
        for (int i = 0; i < 5; i++) {
            b.call(1, 30);
        }
        Checks.due("22: what was before does not count", 2, b.mostBlamed(2, 10, 1));
        Checks.due("22: changes nothing", 10, b.about(3));
        BlameChains twice = three();
        twice.net(1, 0);
        twice.net(2, 5);
        twice.own(2, -999, 999, -99, 4);
        twice.link(2, 1, -99, 8, -99, 99);
        Checks.due("22: several times in one call", 2, twice.mostBlamed(2, 9, 2));
        BlameChains linked = new BlameChains();
        linked.add(1, 0);
        linked.own(0, 0, 0, 0, 0);
        linked.link(NONE, 0, -999, 999, 0, 0);
        Checks.due("22: links do not count", NONE, linked.mostBlamed(0, 1, 50));
    }

    private static void promise23() {
        BlameChains b = three();
        Checks.index("23: part 3", () -> b.reach(3, 0, true));
        Checks.index("23: index first", () -> b.reach(-1, 1000, true));
        Checks.argument("23: 1000", () -> b.reach(0, 1000, true));
        Checks.argument("23: -1000", () -> b.reach(0, -1000, false));
        Checks.due("23: high", 6, b.reach(2, 0, true));
        Checks.due("23: low", -9, b.reach(2, -9, false));
        Checks.due("23: low from 0", -9, b.reach(2, 0, false));
        Checks.due("23: x itself is bad", NONE, b.reach(2, 7, false));
        Checks.due("23: x itself is bad, high", NONE, b.reach(2, 7, true));
        Checks.due("23: x is the last one", 6, b.reach(2, 6, true));
        b.drop(OWN, 0);
        Checks.due("23: 200 up", 1199, b.reach(0, 999, true));
        Checks.due("23: 200 down", -1199, b.reach(0, -999, false));
        Checks.due("23: 200 at most", 205, b.reach(2, 5, true));
        b.own(0, -1198, 1198, -9999, 9999);
        Checks.due("23: above 999", 1198, b.reach(0, 999, true));
        Checks.due("23: below -999", -1198, b.reach(0, -999, false));
        b.net(1, 0);
        Checks.due("23: caught goes well", 1199, b.reach(1, 999, true));
        Checks.due("23: changes nothing", 0, b.about(3));
    }

    private static void promise24() {
        BlameChains b = three();
        Checks.due("24: three", 2, b.runScript(3, 125042254390000L));
        Checks.due("24: call goes well", NONE, b.runScript(1, 12506));
        Checks.due("24: call goes wrong", 0, b.runScript(1, 12507));
        Checks.due("24: -500", 0, b.runScript(1, 10000));
        Checks.due("24: blame is wanted", NONE, b.runScript(1, 22507));
        Checks.due("24: blame does not come", 0, b.runScript(1, 22506));
        Checks.due("24: 499", NONE, b.runScript(1, 20999));
        Checks.due("24: chain", NONE, b.runScript(1, 32000));
        Checks.due("24: chain to itself", 0, b.runScript(1, 31100));
        Checks.due("24: net", NONE, b.runScript(1, 41099));
        Checks.due("24: drop own", NONE, b.runScript(1, 50000));
        Checks.due("24: no own one", 0, b.runScript(1, 51000));
        Checks.due("24: no link", 0, b.runScript(1, 61000));
        b.link(1, 0, -5, 5, -9, 9);
        Checks.due("24: drop link", NONE, b.runScript(1, 61000));
        Checks.due("24: turned link", 0, b.runScript(1, 60100));
        Checks.due("24: twice", 1, b.runScript(2, 6100061000L));
        Checks.due("24: nothing blamed", NONE, b.runScript(2, 7100080000L));
        b.call(1, 9);
        Checks.due("24: blamed once", 0, b.runScript(1, 71000));
        Checks.due("24: blamed at most once", NONE, b.runScript(1, 71001));
        Checks.due("24: another part", NONE, b.runScript(1, 72000));
        Checks.due("24: arose once", 0, b.runScript(1, 80000));
        Checks.due("24: arose at most once", NONE, b.runScript(1, 80001));
        Checks.due("24: at most 99", NONE, b.runScript(1, 80099));
        Checks.due("24: would give 1", NONE, b.runScript(1, 90501));
        Checks.due("24: would not give 2", 0, b.runScript(1, 90502));
        Checks.due("24: zeros before it", 0, b.runScript(2, 12500));
        Checks.due("24: 0 alone", 0, b.runScript(3, 0));
        Checks.due("24: changes nothing", 2, b.about(3));
    }

    private static void promise24wrong() {
        BlameChains b = three();
        Checks.argument("24: n 0", () -> b.runScript(0, 0));
        Checks.argument("24: n 4", () -> b.runScript(4, 0));
        Checks.argument("24: negative", () -> b.runScript(1, -1));
        Checks.argument("24: very negative", () -> b.runScript(3, Long.MIN_VALUE));
        Checks.argument("24: six digits", () -> b.runScript(1, 100000));
        Checks.argument("24: eleven digits", () -> b.runScript(2, 10000000000L));
        Checks.argument("24: sixteen digits", () -> b.runScript(3, 1000000000000000L));
        Checks.argument("24: very many", () -> b.runScript(3, Long.MAX_VALUE));
        Checks.due("24: fifteen nines", 0, b.runScript(3, 999999999999999L));
        Checks.due("24: five digits", 0, b.runScript(1, 99999));
        int[] failing = {0, 9999, 13500, 23500, 19500, 33000, 30000, 32300, 32010, 32001, 43000, 41100, 53000,
            50100, 50010, 50001, 63000, 60000, 73000, 70100, 81000, 80100, 93501};
        for (int group : failing) {
            Checks.due("24: group " + group, 0, b.runScript(1, group));
        }
        b.link(2, 1, 0, 0, 0, 0);
        Checks.due("24: 62100", NONE, b.runScript(1, 62100));
        Checks.due("24: 62110", 0, b.runScript(1, 62110));
        Checks.due("24: 62101", 0, b.runScript(1, 62101));
        Checks.due("24: without parts", 0, new BlameChains().runScript(1, 10500));
        Checks.due("24: without parts, arose", NONE, new BlameChains().runScript(1, 80000));
    }

    private static void promise24copy() {
        BlameChains b = three();
        b.net(1, 40);
        Checks.due("24: commands see the calls", 1, b.runScript(2, 1255080000L));
        Checks.due("24: caught goes well", NONE, b.runScript(2, 1255080001L));
        Checks.due("24: blamed in the copy", 1, b.runScript(2, 1255071000L));
        b.chain(2, 1, 99);
        Checks.due("24: 9 asks alone", NONE, b.runScript(3, 924608000072000L));
        Checks.due("24: the step of 3 is 0", NONE, b.runScript(2, 3100090501L));
        b.own(0, -10, 10, -15, 15);
        Checks.due("24: chain changes what comes", NONE, b.runScript(2, 3200092499L));
        Checks.due("24: net changes what comes", NONE, b.runScript(2, 4100792493L));
        Checks.due("24: dropping changes what comes", NONE, b.runScript(2, 5000010999L));
        Checks.due("24: the plan is as before", 99, b.part(2, 3));
        Checks.due("24: and its net", 40, b.part(1, 4));
        Checks.due("24: and its contract", 1, b.about(1));
        Checks.due("24: no call", 0, b.about(3));
        Checks.due("24: is no action", 8, b.undo());
    }

    private static void promise25() {
        BlameChains b = three();
        Checks.argument("25: 0", () -> b.simulate(0, 0));
        Checks.argument("25: 100", () -> b.simulate(0, 100));
        Checks.argument("25: 0 without parts", () -> new BlameChains().simulate(0, 0));
        Checks.due("25: without parts", 0, new BlameChains().simulate(0, 1));
        b.call(2, 50);
        b.net(2, 3);
        b.call(2, 50);
        for (long seed = -3; seed <= 3; seed++) {
            simulated(b, seed, 99);
            simulated(b, seed, 1);
        }
        simulated(b, Long.MAX_VALUE, 50);
        simulated(b, Long.MIN_VALUE, 50);
        Checks.due("25: changes nothing", 6, b.about(3));
        Checks.due("25: no blame", NONE, b.blame(2, 0));
        BlameChains one = new BlameChains();
        one.add(1, 0);
        one.own(0, -9999, 9999, -9999, -9999);
        Checks.due("25: one part", 990001, one.simulate(1, 99));
        Checks.due("25: one call", 10001, one.simulate(1, 1));
    }

    /** The calls of a simulation one by one: a second object of the same make counts what comes of them. */
    private static void simulated(BlameChains b, long seed, int m) {
        BlameChains other = three();
        other.net(2, 3);
        long x = seed;
        for (int i = 0; i < m; i++) {
            x = x * 6364136223846793005L + 1442695040888963407L;
            int r = (int) (x >>> 33);
            other.call(r % 3, r / 16 % 201 - 100);
        }
        int different = 0;
        for (int p = 0; p < 3; p++) {
            different += other.part(p, 6) > 0 ? 1 : 0;
        }
        Checks.due("25: " + seed + ", " + m, 10000 * other.about(6) + 100 * other.about(7) + different, b.simulate(seed, m));
    }

    private static void promise26and27() {
        BlameChains b = three();
        Checks.index("26: -1", () -> b.save(-1));
        Checks.index("26: 2", () -> b.save(2));
        Checks.index("27: -1", () -> b.restore(-1));
        Checks.index("27: 2", () -> b.restore(2));
        Checks.state("27: nothing saved", () -> b.restore(0));
        Checks.due("26: 0", 3, b.save(0));
        Checks.state("27: the other one", () -> b.restore(1));
        Checks.due("26: is no action", 5, b.undo());
        b.add(1, 1);
        b.link(3, 0, 1, 2, 3, 4);
        b.net(1, 7);
        b.call(2, 99);
        Checks.due("26: 1", 4, b.save(1));
        b.append('C');
        Checks.due("27: 0", 3, b.restore(0));
        Checks.due("27: the text stays", 1, b.clearText());
        Checks.state("27: forgets what is remembered", () -> b.undo());
        Checks.due("27: chain is back", 1, b.part(2, 2));
        Checks.due("27: net is back", NONE, b.part(1, 4));
        Checks.due("27: calls are back", 0, b.about(3));
        Checks.due("27: links are back", 0, b.about(2));
        Checks.due("27: blames are back", NONE, b.blame(0, 0));
        Checks.due("27: 1", 4, b.restore(1));
        Checks.due("27: blame", 0, b.about(8));
        Checks.due("27: link", 4, b.contract(3, 0, 3));
        Checks.due("27: call", 1, b.part(2, 5));
        b.add(1, 1);
        Checks.due("27: the slot keeps it", 4, b.restore(1));
        Checks.due("26: over the other one", 4, b.save(0));
        Checks.due("27: the new one", 4, b.restore(0));
        b.append('C');
        b.load();
        Checks.state("27: empty after load", () -> b.restore(0));
        Checks.state("27: empty after load, 1", () -> b.restore(1));
        Checks.due("26: no parts", 0, b.save(1));
        Checks.due("27: no parts", 0, b.restore(1));
    }
}

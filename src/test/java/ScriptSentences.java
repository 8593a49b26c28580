import java.math.BigInteger;

/** Promises 24 and 25: scripts and simulations. */
final class ScriptSentences extends Sentences {
    private static final BigInteger FACTOR = BigInteger.valueOf(6364136223846793005L);
    private static final BigInteger MORE = BigInteger.valueOf(1442695040888963407L);
    private static final BigInteger WHOLE = BigInteger.ONE.shiftLeft(64);
    /** A number r, then for 1, 2, 3, 7 and 10 parts the part that is called, and the number with which it is. */
    private static final int[][] DRAWN = {
        {0, 0, 0, 0, 0, 0, -100}, {1, 0, 1, 1, 1, 1, -100}, {15, 0, 1, 0, 1, 5, -100}, {16, 0, 0, 1, 2, 6, -99},
        {3199, 0, 1, 1, 0, 9, 99}, {3200, 0, 0, 2, 1, 0, 100}, {3215, 0, 1, 2, 2, 5, 100}, {3216, 0, 0, 0, 3, 6, -100},
        {1073741823, 0, 1, 0, 0, 3, 89}, {1073741824, 0, 0, 1, 1, 4, 90}, {2147483646, 0, 0, 0, 0, 6, 78},
        {2147483647, 0, 1, 1, 1, 7, 78}};

    private ScriptSentences() {
    }

    static void all() {
        scriptArguments();
        digitsOfScripts();
        zerosBefore();
        firstThatFails();
        callCommands();
        chainAndNetCommands();
        dropCommands();
        atMostBlamed();
        atMostArisen();
        wouldGive();
        onACopy();
        eachGroup();
        partsThatAreGone();
        simulateArguments();
        withoutParts();
        drawnNumbers();
        overflow();
        simulateAnswers();
        differentParts();
    }

    private static void runs(String what, int want, BlameChains b, int n, long script) {
        due(what + ": " + script, want, b.runScript(n, script));
    }

    private static void scriptArguments() {
        sentence("Promise 24", "n: number of commands, 1 to 3");
        limits(ARGUMENT, RICH, 1, 3, (b, n) -> b.runScript(n, 0));
        limits(ARGUMENT, RICH, 1, 3, (b, n) -> b.runScript(n, 10500));
        sentence("Promise 24", "Throws IllegalArgumentException if n is out of range, or if script is negative or has more than 5 * n digits");
        for (int n = 1; n <= 3; n++) {
            int many = n;
            for (long negative : new long[] {-1, -2, -10500, -99999, Integer.MIN_VALUE, Long.MIN_VALUE, Long.MIN_VALUE + 1}) {
                refused(ARGUMENT, RICH, b -> b.runScript(many, negative));
            }
        }
        refused(ARGUMENT, RICH, b -> b.runScript(0, -1));
        refused(ARGUMENT, Scenes::empty, b -> b.runScript(4, 10500));
    }

    private static void digitsOfScripts() {
        sentence("Promise 24", "script: the commands, a number of at most 5 * n digits (0 or more)");
        long[] most = {99999L, 9999999999L, 999999999999999L};
        for (int n = 1; n <= 3; n++) {
            int many = n;
            long last = most[n - 1];
            goes(RICH, b -> b.runScript(many, last));
            goes(RICH, b -> b.runScript(many, 0));
            goes(RICH, b -> b.runScript(many, 1));
            goes(RICH, b -> b.runScript(many, last / 10 + 1));
            refused(ARGUMENT, RICH, b -> b.runScript(many, last + 1));
            refused(ARGUMENT, RICH, b -> b.runScript(many, last + 2));
            refused(ARGUMENT, RICH, b -> b.runScript(many, last * 10));
            refused(ARGUMENT, RICH, b -> b.runScript(many, Long.MAX_VALUE));
            refused(ARGUMENT, RICH, b -> b.runScript(many, 1L << 62));
        }
        runs("five digits", NONE, Scenes.parts(10), 1, 19999);
        runs("ten digits", NONE, Scenes.parts(10), 2, 1999919999L);
        runs("fifteen digits", NONE, Scenes.parts(10), 3, 199991999919999L);
    }

    private static void zerosBefore() {
        sentence("Promise 24", "the first command is the highest group of the number (with zeros before it, if it has fewer digits).");
        BlameChains b = Scenes.parts(1);
        runs("one group of two", 0, b, 2, 10500);
        runs("two groups of three", 0, b, 3, 1050010500L);
        runs("nine digits of ten", 0, b, 2, 105001050);
        runs("four digits of five", 0, b, 1, 1050);
        runs("0", 0, b, 1, 0);
        runs("0", 0, b, 3, 0);
        runs("one of one", NONE, b, 1, 10500);
        runs("two of two", NONE, b, 2, 1050010500L);
        runs("three of three", NONE, b, 3, 105001050010500L);
        runs("the first one is done first", NONE, Scenes.asking(Scenes.parts(1), 0), 2, 5000010501L);
        runs("and the second one then", 0, Scenes.asking(Scenes.parts(1), 0), 2, 1050150000L);
    }

    private static void firstThatFails() {
        sentence("Promise 24", "Returns the index, from 0, of the first command that fails; NONE if all succeed.");
        BlameChains b = Scenes.parts(1);
        runs("none fails", NONE, b, 3, 105001050010500L);
        runs("the first one", 0, b, 3, 205001050010500L);
        runs("the second one", 1, b, 3, 105002050010500L);
        runs("the third one", 2, b, 3, 105001050020500L);
        runs("the first one of two", 0, b, 3, 205002050010500L);
        runs("the second one of two", 1, b, 3, 105002050020500L);
        runs("all", 0, b, 3, 205002050020500L);
        runs("the second one of two commands", 1, b, 2, 1050020500L);
    }

    private static void callCommands() {
        sentence("Promise 24", "1 p x y z: call(p, xyz - 500); succeeds if no blame comes to the outside.");
        int[] numbers = {0, 1, 499, 500, 501, 998, 999};
        for (int xyz : numbers) {
            BlameChains b = Scenes.asking(Scenes.parts(10), xyz - 500);
            for (int other : numbers) {
                runs("asking for " + (xyz - 500), xyz == other ? NONE : 0, b, 1, 10000 + other);
            }
        }
        runs("the last part", NONE, Scenes.ten(), 1, 19999);
        runs("no such part", 0, Scenes.parts(9), 1, 19999);
        runs("without parts", 0, Scenes.empty(), 1, 10500);
        BlameChains caught = Scenes.asking(Scenes.row(2), 0);
        caught.net(1, 1);
        runs("caught", NONE, caught, 1, 11501);
        sentence("Promise 24", "2 p x y z: likewise; succeeds if blame comes to the outside.");
        for (int xyz : numbers) {
            BlameChains b = Scenes.asking(Scenes.parts(10), xyz - 500);
            for (int other : numbers) {
                runs("asking for " + (xyz - 500), xyz == other ? 0 : NONE, b, 1, 20000 + other);
            }
        }
        runs("no such part", 0, Scenes.parts(9), 1, 29999);
        runs("without parts", 0, Scenes.empty(), 1, 20500);
        runs("caught", 0, caught, 1, 21501);
        runs("not caught", NONE, caught, 1, 20501);
    }

    private static void chainAndNetCommands() {
        sentence("Promise 24", "3 p q 0 0: chain(p, q, 0).");
        BlameChains b = Scenes.parts(9);
        for (int p = 0; p <= 9; p++) {
            for (int q = 0; q <= 9; q++) {
                runs("chain", p < 9 && q < p ? NONE : 0, b, 1, 30000 + 1000 * p + 100 * q);
            }
        }
        runs("the last part", NONE, Scenes.ten(), 1, 39800);
        runs("9 to itself", 0, Scenes.ten(), 1, 39900);
        runs("10 where 0 0 is written", 0, b, 1, 31010);
        runs("01 where 0 0 is written", 0, b, 1, 31001);
        runs("the step is 0", NONE, Scenes.asking(Scenes.parts(2), 7), 2, 3100011507L);
        runs("it is chained", 1, Scenes.asking(Scenes.parts(2), 7), 2, 3100011508L);
        sentence("Promise 24", "4 p 0 n n: net(p, nn).");
        for (int nn : new int[] {0, 1, 9, 10, 99}) {
            BlameChains row = Scenes.asking(Scenes.row(2), 7);
            row.own(1, -9999, 9999, nn, nn);
            runs("the net", NONE, row, 2, 1000000000L * 4 + 100000L * (1000 + nn) + 11508);
            runs("another net", 1, row, 2, 1000000000L * 4 + 100000L * (1000 + (nn + 1) % 100) + 11508);
        }
        runs("the first part", NONE, b, 1, 40000);
        runs("the last part", NONE, b, 1, 48099);
        runs("no such part", 0, b, 1, 49000);
        runs("1 where 0 is written", 0, b, 1, 40100);
        runs("9 where 0 is written", 0, b, 1, 48999);
        runs("without parts", 0, Scenes.empty(), 1, 40000);
    }

    private static void dropCommands() {
        sentence("Promise 24", "5 p 0 0 0: drop(NONE - 1, p).");
        BlameChains b = Scenes.parts(9);
        b.own(0, 0, 0, 0, 0);
        b.own(8, 0, 0, 0, 0);
        b.link(8, 0, 0, 0, 0, 0);
        b.link(NONE, 1, 0, 0, 0, 0);
        for (int p = 0; p <= 9; p++) {
            runs("own", p == 0 || p == 8 ? NONE : 0, b, 1, 50000 + 1000 * p);
        }
        for (int digits : new int[] {1, 10, 100, 9, 90, 900, 999}) {
            runs("another digit where 0 is written", 0, b, 1, 50000 + digits);
        }
        runs("twice", 1, b, 2, 5000050000L);
        sentence("Promise 24", "6 c p 0 0: drop(c, p).");
        for (int c = 0; c <= 9; c++) {
            for (int p = 0; p <= 9; p++) {
                runs("link", c == 8 && p == 0 ? NONE : 0, b, 1, 60000 + 1000 * c + 100 * p);
            }
        }
        for (int digits : new int[] {1, 10, 9, 90, 99}) {
            runs("another digit where 0 is written", 0, b, 1, 68000 + digits);
        }
        runs("twice", 1, b, 2, 6800068000L);
        runs("both", NONE, b, 2, 6800050000L);
    }

    private static void atMostBlamed() {
        sentence("Promise 24", "7 p 0 n n: succeeds if the part p was blamed at most nn times so far.");
        BlameChains b = Scenes.parts(2);
        b.own(0, -999, 999, 7, 7);
        for (int times = 0; times <= 101; times++) {
            for (int nn : new int[] {times - 1, times}) {
                if (nn >= 0 && nn <= 99) {
                    runs("blamed " + times + " times", times <= nn ? NONE : 0, b, 1, 70000 + nn);
                }
            }
            b.call(0, 1);
        }
        runs("another part", NONE, b, 1, 71000);
        runs("no such part", 0, b, 1, 72099);
        runs("1 where 0 is written", 0, b, 1, 71100);
        runs("without parts", 0, Scenes.empty(), 1, 70099);
        BlameChains one = Scenes.parts(1);
        one.own(0, -999, 999, 7, 7);
        runs("blamed in the script", 1, one, 2, 2050070000L);
        runs("once", NONE, one, 2, 2050070001L);
    }

    private static void atMostArisen() {
        sentence("Promise 24", "8 0 0 n n: succeeds if blame arose at most nn times so far.");
        BlameChains b = Scenes.asking(Scenes.row(2), 0);
        b.net(1, 0);
        for (int times = 0; times <= 101; times++) {
            for (int nn : new int[] {times - 1, times}) {
                if (nn >= 0 && nn <= 99) {
                    runs("arose " + times + " times", times <= nn ? NONE : 0, b, 1, 80000 + nn);
                }
            }
            b.call(times % 2, 1);
        }
        runs("1 where 0 is written", 0, Scenes.ten(), 1, 81099);
        runs("1 where the second 0 is written", 0, Scenes.ten(), 1, 80199);
        runs("without parts", NONE, Scenes.empty(), 1, 80000);
        runs("arose in the script", 1, Scenes.asking(Scenes.parts(1), 0), 2, 2050180000L);
        runs("once", NONE, Scenes.asking(Scenes.parts(1), 0), 2, 2050180001L);
    }

    private static void wouldGive() {
        sentence("Promise 24", "9 p x y z: succeeds if call(p, 0) would give xyz - 500.");
        int[][] parts = {{-5, -5, -500}, {-5, -4, -499}, {5, 4, 499}, {5, 3, 498}};
        for (int[] part : parts) {
            BlameChains b = Scenes.empty();
            b.add(1, 99 * Integer.signum(part[0]));
            b.add(Math.abs(part[0]), part[1]);
            b.chain(1, 0, 0);
            due("what it gives", part[2], b.would(1, 0, 0));
            for (int xyz : new int[] {0, 1, 499, 500, 501, 998, 999}) {
                runs("gives " + part[2], xyz - 500 == part[2] ? NONE : 0, b, 1, 91000 + xyz);
            }
        }
        BlameChains beyond = Scenes.empty();
        beyond.add(1, 99);
        beyond.add(5, 5);
        beyond.chain(1, 0, 0);
        runs("500 cannot be told", 0, beyond, 1, 91999);
        runs("nor as 000", 0, beyond, 1, 91000);
        BlameChains b = Scenes.asking(Scenes.parts(1), 7);
        for (int xyz = 0; xyz <= 999; xyz += 37) {
            runs("blame gives no number", 0, Scenes.asking(Scenes.parts(1), 7), 1, 90000 + xyz);
        }
        runs("no such part", 0, b, 1, 91500);
        runs("without parts", 0, Scenes.empty(), 1, 90500);
        BlameChains row = Scenes.asking(Scenes.parts(2), 7);
        row.own(0, -9999, 9999, 7, 7);
        row.chain(1, 0, 0);
        row.net(1, 9);
        runs("what would be does not become", NONE, row, 3, 915098000070000L);
        runs("what is does", 1, row, 3, 115008000070000L);
    }

    private static void onACopy() {
        sentence("Promise 24", "Runs a script on a copy of the state.");
        long[] scripts = {10500, 25999, 31000, 42005, 50000, 61000, 70099, 80099, 92493};
        for (long script : scripts) {
            asks(RICH, b -> b.runScript(1, script));
            asks(ANEW, b -> b.runScript(1, script));
        }
        asks(RICH, b -> b.runScript(3, 420055000061000L));
        asks(ANEW, b -> b.runScript(3, 420055000061000L));
        BlameChains b = Scenes.rich();
        runs("all done", NONE, b, 3, 420055000061000L);
        runs("and none of it, at the next script", NONE, b, 3, 420055000061000L);
    }

    private static boolean succeeds(Scenes.Scene scene, int group) {
        int p = group / 1000 % 10;
        int q = group / 100 % 10;
        int last = group % 100;
        int number = group % 1000 - 500;
        BlameChains b = scene.made();
        try {
            switch (group / 10000) {
                case 1: return b.call(p, number) != NONE;
                case 2: return b.call(p, number) == NONE;
                case 3: return last == 0 && b.chain(p, q, 0) > 0;
                case 4: return q == 0 && b.net(p, last) >= NONE;
                case 5: return q == 0 && last == 0 && b.drop(OWN, p) >= 0;
                case 6: return last == 0 && b.drop(p, q) >= 0;
                case 7: return q == 0 && b.part(p, 6) <= last;
                case 8: return p == 0 && q == 0 && b.about(5) <= last;
                case 9: return b.would(p, 0, 0) == number;
                default: return false;
            }
        } catch (IllegalArgumentException | IndexOutOfBoundsException e) {
            return false;
        }
    }

    private static void eachGroup() {
        sentence("Promise 24", "The commands 1 to 6 fail if the method would throw an exception; commands with parts or contracts that do"
            + " not exist fail, and so does any other group (also one with another digit where a 0 is written).");
        for (Scenes.Scene scene : new Scenes.Scene[] {RICH, Scenes::empty}) {
            BlameChains b = scene.made();
            for (int group = 0; group <= 99999; group++) {
                if (group % 400 == 0) {
                    b = scene.made();
                }
                runs("group", succeeds(scene, group) ? NONE : 0, b, 1, group);
            }
        }
    }

    /** One part, where ten in a row were before: what they were must not be seen. */
    private static BlameChains oneBehindTen() {
        BlameChains b = Scenes.full();
        Scenes.write(b, "Cn+01+00o0+05+05+05+05").load();
        return b;
    }

    private static void partsThatAreGone() {
        sentence("Promise 24", "commands with parts or contracts that do not exist fail,");
        for (int p = 1; p <= 9; p++) {
            BlameChains b = oneBehindTen();
            for (int xyz = 4; xyz <= 999; xyz += 31) {
                runs("call", 0, b, 1, 10000 + 1000 * p + xyz);
                runs("call with blame", 0, b, 1, 20000 + 1000 * p + xyz);
                runs("would give", 0, b, 1, 90000 + 1000 * p + xyz);
            }
            for (int q = 0; q <= 9; q++) {
                runs("chain", 0, b, 1, 30000 + 1000 * p + 100 * q);
                runs("drop of a link", 0, b, 1, 60000 + 1000 * p + 100 * q);
            }
            runs("net", 0, b, 1, 40000 + 1000 * p);
            runs("drop", 0, b, 1, 50000 + 1000 * p);
            runs("blamed", 0, b, 1, 70099 + 1000 * p);
        }
    }

    private static void simulateArguments() {
        sentence("Promise 25", "m: number of calls, 1 to 99");
        sentence("Promise 25", "Throws IllegalArgumentException if m is out of range");
        limits(ARGUMENT, RICH, 1, 99, (b, m) -> b.simulate(0, m));
        limits(ARGUMENT, Scenes::empty, 1, 99, (b, m) -> b.simulate(-1, m));
        sentence("Promise 25", "seed: any long");
        for (long seed : new long[] {0, 1, -1, Long.MIN_VALUE, Long.MAX_VALUE, Integer.MIN_VALUE, 1L << 33, -6364136223846793005L}) {
            asks(RICH, b -> b.simulate(seed, 99));
            asks(Scenes::empty, b -> b.simulate(seed, 99));
        }
        sentence("Promise 25", "Simulates m calls on a copy of the state.");
        asks(ANEW, b -> b.simulate(5, 99));
        due("the same at each time", Scenes.rich().simulate(5, 99), simulatedTwice());
    }

    private static int simulatedTwice() {
        BlameChains b = Scenes.rich();
        b.simulate(5, 99);
        return b.simulate(5, 99);
    }

    private static void withoutParts() {
        sentence("Promise 25", "Without parts nothing happens.");
        due("1 call", 0, Scenes.empty().simulate(3, 1));
        due("99 calls", 0, Scenes.empty().simulate(Long.MIN_VALUE, 99));
        BlameChains b = Scenes.parts(1);
        b.own(0, 0, 0, 1, 1);
        b.save(0);
        Scenes.write(b, "C").load();
        due("not any more", 0, b.simulate(3, 99));
    }

    /** The seed of which the first call draws r: x is r, and then 33 bits. */
    private static long seedFor(int r, long bits) {
        BigInteger x = BigInteger.valueOf(r).shiftLeft(33).add(BigInteger.valueOf(bits));
        return x.subtract(MORE).multiply(FACTOR.modInverse(WHOLE)).mod(WHOLE).longValue();
    }

    /** Part p alone asks for the number, the others for one that is not drawn: so all goes well with this call alone. */
    private static BlameChains onlyFor(int parts, int p, int number) {
        BlameChains b = Scenes.parts(parts);
        for (int q = 0; q < parts; q++) {
            b.own(q, q == p ? number : 500, q == p ? number : 500, -9999, 9999);
        }
        return b;
    }

    private static void drawnNumbers() {
        sentence("Promise 25", "the part r % (the number of parts) is called with r / 16 % 201 - 100.");
        int[] parts = {1, 2, 3, 7, 10};
        for (int[] drawn : DRAWN) {
            for (int i = 0; i < parts.length; i++) {
                int p = drawn[i + 1];
                int number = drawn[6];
                for (long bits : new long[] {0, 1, (1L << 33) - 1}) {
                    String what = "r " + drawn[0] + " of " + parts[i];
                    long seed = seedFor(drawn[0], bits);
                    due(what, 0, onlyFor(parts[i], p, number).simulate(seed, 1));
                    due(what + ", one below", 10000, onlyFor(parts[i], p, number - 1).simulate(seed, 1));
                    due(what + ", one above", 10000, onlyFor(parts[i], p, number + 1).simulate(seed, 1));
                    if (parts[i] > 1) {
                        due(what + ", another part", 10000, onlyFor(parts[i], (p + 1) % parts[i], number).simulate(seed, 1));
                    }
                }
            }
        }
    }

    /** The calls of a simulation one by one on the object itself, x reckoned without a machine's long. */
    private static int byCalls(BlameChains b, long seed, int m) {
        int out = b.about(6);
        int caught = b.about(7);
        int[] blamed = new int[10];
        for (int p = 0; p < b.about(0); p++) {
            blamed[p] = b.part(p, 6);
        }
        BigInteger x = BigInteger.valueOf(seed);
        for (int i = 0; i < m; i++) {
            x = x.multiply(FACTOR).add(MORE).mod(WHOLE);
            int r = x.shiftRight(33).intValueExact();
            b.call(r % b.about(0), r / 16 % 201 - 100);
        }
        int different = 0;
        for (int p = 0; p < b.about(0); p++) {
            different += b.part(p, 6) > blamed[p] ? 1 : 0;
        }
        return 10000 * (b.about(6) - out) + 100 * (b.about(7) - caught) + different;
    }

    private static BlameChains manyBlames() {
        BlameChains b = Scenes.row(10);
        for (int p = 0; p < 10; p++) {
            b.own(p, -50 - p, 99 - p, -60 + p, 60 - p);
        }
        b.link(3, 2, -30, 30, -20, 20);
        b.net(5, 1);
        b.net(7, 70);
        b.call(9, 99);
        b.call(2, 99);
        return b;
    }

    private static void overflow() {
        sentence("Promise 25", "For each call x is first replaced by x * 6364136223846793005L + 1442695040888963407L (with long"
            + " overflow), and r = (int) (x >>> 33) is computed;");
        long[] seeds = {0, 1, -1, 2, -2, Long.MAX_VALUE, Long.MIN_VALUE, Long.MAX_VALUE / 2 + 1, 1L << 32, 6364136223846793005L,
            -1442695040888963407L, 123456789012345L, seedFor(Integer.MAX_VALUE, 0), seedFor(0, 0)};
        for (long seed : seeds) {
            for (int m : new int[] {1, 2, 98, 99}) {
                due("seed " + seed + ", " + m, byCalls(manyBlames(), seed, m), manyBlames().simulate(seed, m));
                due("rich, seed " + seed + ", " + m, byCalls(Scenes.rich(), seed, m), Scenes.rich().simulate(seed, m));
            }
        }
    }

    private static void simulateAnswers() {
        sentence("Promise 25", "Returns 10000 * (how often blame comes to the outside in them) + 100 * (how often it is caught in them)"
            + " + (how many different parts are blamed in them, also by blame that is caught).");
        due("no blame", 0, Scenes.ten().simulate(1, 99));
        BlameChains asks = Scenes.asking(Scenes.parts(1), 500);
        due("99 times, the outside is no part", 990000, asks.simulate(1, 99));
        due("once", 10000, asks.simulate(1, 1));
        BlameChains gives = Scenes.parts(1);
        gives.own(0, -9999, 9999, 500, 500);
        due("99 times, one part", 990001, gives.simulate(1, 99));
        gives.call(0, 1);
        gives.call(0, 2);
        due("what was before does not count", 10001, gives.simulate(1, 1));
        BlameChains caught = Scenes.row(2);
        caught.own(0, -9999, 9999, 500, 500);
        caught.net(1, 0);
        int all = caught.simulate(1, 99);
        due("each one comes to the outside or is caught", 99, all / 10000 + all % 10000 / 100);
        due("part 0 is blamed, part 1 is not", 1, all % 100);
        due("as call by call", byCalls(caught, 1, 99), all);
    }

    private static void differentParts() {
        sentence("Promise 25", "(how many different parts are blamed in them, also by blame that is caught).");
        BlameChains b = Scenes.parts(10);
        for (int p = 0; p < 10; p++) {
            b.own(p, -9999, 9999, 500, 500);
        }
        due("all ten", 990010, b.simulate(1, 99));
        due("one of ten", 10001, b.simulate(1, 1));
        BlameChains links = Scenes.parts(2);
        links.own(0, 500, 500, -9999, 9999);
        links.link(NONE, 0, -9999, 9999, -9999, 9999);
        links.own(1, -9999, 9999, -9999, 9999);
        links.link(NONE, 1, -9999, 9999, 500, 500);
        due("links are no parts", 990000, links.simulate(1, 99));
        BlameChains inside = Scenes.row(10);
        for (int p = 0; p < 10; p++) {
            inside.own(p, -9999, 9999, 500, 500);
            inside.net(p, 0);
        }
        int all = inside.simulate(seedFor(9, 0), 1);
        due("one call that all ten are blamed in, nine times caught", 10000 + 900 + 10, all);
    }
}

import java.util.ArrayDeque;
import java.util.ArrayList;
import java.util.Deque;
import java.util.List;
import java.util.TreeMap;
import java.util.TreeSet;
import java.util.regex.Matcher;
import java.util.regex.Pattern;

/** The document once more, written another way: whole copies, lists and maps, blame as an exception. */
public final class Model {
    private static final int NONE = -10000;
    private static final int OWN = NONE - 1;
    private static final Pattern PLAN = Pattern.compile(
        "C(n[+-]0[0-9][+-][0-9]{2}|s[0-9]{2}[+-][0-9]{2}|o[0-9]([+-][0-9]{2}){4}|k[+-][0-9]{2}|x[0-9])*");

    private static final class Blame extends Exception {
        private static final long serialVersionUID = 1L;
        final int[] row;

        Blame(int[] row) {
            this.row = row;
        }
    }

    private record Range(int low, int high) {
        Range {
            if (low < -9999 || high > 9999 || low > high) {
                throw new IllegalArgumentException();
            }
        }

        boolean has(int number) {
            return low <= number && number <= high;
        }

        boolean hasAll(Range other) {
            return has(other.low) && has(other.high);
        }
    }

    private record Contract(Range ask, Range give) {
        boolean mayStandFor(Contract other) {
            return ask.hasAll(other.ask) && other.give.hasAll(give);
        }
    }

    private record Link(int caller, int p) implements Comparable<Link> {
        @Override
        public int compareTo(Link other) {
            return caller != other.caller ? Integer.compare(caller, other.caller) : Integer.compare(p, other.p);
        }
    }

    private static final class Part {
        int factor;
        int more;
        Integer next;
        int step;
        Integer net;
        int called;
        int blamed;
        int caught;
        Part copy() {
            Part c = new Part();
            c.factor = factor;
            c.more = more;
            c.next = next;
            c.step = step;
            c.net = net;
            c.called = called;
            c.blamed = blamed;
            c.caught = caught;
            return c;
        }
    }

    private static final class State {
        final List<Part> parts = new ArrayList<>();
        final TreeMap<Link, Contract> contracts = new TreeMap<>();
        final List<int[]> blames = new ArrayList<>();
        int outside;
        int cameOut;

        State copy() {
            State c = new State();
            parts.forEach(part -> c.parts.add(part.copy()));
            c.contracts.putAll(contracts);
            blames.forEach(row -> c.blames.add(row.clone()));
            c.outside = outside;
            c.cameOut = cameOut;
            return c;
        }

        int fromOutside(int p, int x) {
            outside++;
            try {
                return over(NONE, p, x);
            } catch (Blame blame) {
                cameOut++;
                return NONE;
            }
        }

        private int over(int caller, int p, int x) throws Blame {
            Part part = parts.get(p);
            part.called++;
            Contract link = contracts.get(new Link(caller, p));
            Contract own = contracts.get(new Link(OWN, p));
            if (link != null && !link.ask.has(x)) {
                throw arise(1, caller, p, x);
            }
            if (own != null && !own.ask.has(x)) {
                throw arise(link == null ? 1 : 3, caller, p, x);
            }
            int given;
            try {
                int z = part.next == null ? x : over(p, part.next, x + part.step);
                given = Math.max(-9999, Math.min(9999, part.factor * z + part.more));
            } catch (Blame blame) {
                if (part.net == null) {
                    blame.row[4]++;
                    throw blame;
                }
                blame.row[5] = 1;
                part.caught++;
                given = part.net;
            }
            if (own != null && !own.give.has(given)) {
                throw arise(2, caller, p, given);
            }
            if (link != null && !link.give.has(given)) {
                throw arise(own == null ? 2 : 3, caller, p, given);
            }
            return given;
        }

        private Blame arise(int kind, int caller, int p, int number) {
            int[] row = {kind, caller, p, number, 1, 0};
            blames.add(row);
            int who = blamed(row);
            if (who != NONE) {
                parts.get(who).blamed++;
            }
            return new Blame(row);
        }
    }

    private String text = "";
    private State now = new State();
    private final Deque<State> before = new ArrayDeque<>();
    private final State[] slots = new State[2];

    private static int blamed(int[] row) {
        return row[0] == 1 ? row[1] : row[0] == 2 ? row[2] : NONE;
    }

    private static void within(int number, int low, int high) {
        if (number < low || number > high) {
            throw new IllegalArgumentException();
        }
    }

    private void exists(int p) {
        if (p < 0 || p >= now.parts.size()) {
            throw new IndexOutOfBoundsException();
        }
    }

    private Contract existing(int caller, int p) {
        Contract found = now.contracts.get(new Link(caller, p));
        if (found == null) {
            throw new IndexOutOfBoundsException();
        }
        return found;
    }

    private void remember() {
        before.addLast(now.copy());
        if (before.size() > 14) {
            before.removeFirst();
        }
    }

    public int append(int c) {
        within(c, 0, 255);
        if (text.length() == 120) {
            throw new IllegalStateException();
        }
        text += (char) c;
        return text.length();
    }

    public int clearText() {
        int length = text.length();
        text = "";
        return length;
    }

    public int errorPosition() {
        for (int end = 1; end <= text.length(); end++) {
            Matcher matcher = PLAN.matcher(text.substring(0, end));
            if (!matcher.matches() && !matcher.hitEnd()) {
                return end - 1;
            }
        }
        return PLAN.matcher(text).matches() ? NONE : text.length();
    }

    public int load() {
        if (!PLAN.matcher(text).matches()) {
            throw new IllegalStateException();
        }
        now = new State();
        slots[0] = null;
        slots[1] = null;
        int leftOut = 0;
        for (String command : text.substring(1).split("(?=[nsokx])")) {
            if (command.isEmpty()) {
                continue;
            }
            try {
                obey(command);
            } catch (IllegalArgumentException | IllegalStateException | IndexOutOfBoundsException e) {
                leftOut++;
            }
        }
        before.clear();
        return leftOut;
    }

    private static int number(String command, int from) {
        return Integer.parseInt(command.substring(from, from + 3));
    }

    private void obey(String c) {
        switch (c.charAt(0)) {
            case 'n': add(number(c, 1), number(c, 4)); break;
            case 's': chain(c.charAt(1) - '0', c.charAt(2) - '0', number(c, 3)); break;
            case 'o': own(c.charAt(1) - '0', number(c, 2), number(c, 5), number(c, 8), number(c, 11)); break;
            case 'k': call(now.parts.size() - 1, number(c, 1)); break;
            default: drop(OWN, c.charAt(1) - '0'); break;
        }
    }

    private int count(boolean own) {
        return (int) now.contracts.keySet().stream().filter(link -> (link.caller == OWN) == own).count();
    }

    public int about(int what) {
        within(what, 0, 8);
        int[] all = {now.parts.size(), count(true), count(false), now.parts.stream().mapToInt(part -> part.called).sum(),
            now.outside, now.blames.size(), now.cameOut, (int) now.blames.stream().filter(row -> row[5] == 1).count(),
            now.blames.isEmpty() ? 0 : now.blames.get(now.blames.size() - 1)[0]};
        return all[what];
    }

    private int chainOf(int p) {
        Integer next = now.parts.get(p).next;
        return next == null ? 1 : 1 + chainOf(next);
    }

    public int part(int p, int what) {
        exists(p);
        within(what, 0, 8);
        Part part = now.parts.get(p);
        int[] all = {part.factor, part.more, part.next == null ? NONE : part.next, part.next == null ? NONE : part.step,
            part.net == null ? NONE : part.net, part.called, part.blamed, part.caught, chainOf(p)};
        return all[what];
    }

    public int contract(int caller, int p, int what) {
        Contract found = existing(caller, p);
        within(what, 0, 3);
        return new int[] {found.ask.low, found.ask.high, found.give.low, found.give.high}[what];
    }

    public int blame(int k, int what) {
        within(k, 0, 9);
        within(what, 0, 5);
        return k < now.blames.size() ? now.blames.get(now.blames.size() - 1 - k)[what] : NONE;
    }

    public int add(int factor, int more) {
        within(factor, -9, 9);
        within(more, -99, 99);
        if (now.parts.size() == 10) {
            throw new IllegalStateException();
        }
        remember();
        Part part = new Part();
        part.factor = factor;
        part.more = more;
        now.parts.add(part);
        return now.parts.size() - 1;
    }

    public int chain(int p, int next, int step) {
        exists(p);
        if (next != NONE) {
            within(next, 0, p - 1);
        }
        within(step, -99, 99);
        remember();
        now.parts.get(p).next = next == NONE ? null : Integer.valueOf(next);
        now.parts.get(p).step = step;
        return chainOf(p);
    }

    public int net(int p, int net) {
        exists(p);
        if (net != NONE) {
            within(net, -99, 99);
        }
        remember();
        Integer old = now.parts.get(p).net;
        now.parts.get(p).net = net == NONE ? null : Integer.valueOf(net);
        return old == null ? NONE : old;
    }

    public int own(int p, int askLow, int askHigh, int giveLow, int giveHigh) {
        exists(p);
        Contract contract = new Contract(new Range(askLow, askHigh), new Range(giveLow, giveHigh));
        remember();
        now.contracts.put(new Link(OWN, p), contract);
        return count(true);
    }

    public int link(int caller, int p, int askLow, int askHigh, int giveLow, int giveHigh) {
        exists(p);
        if (caller != NONE) {
            within(caller, p + 1, now.parts.size() - 1);
        }
        Contract contract = new Contract(new Range(askLow, askHigh), new Range(giveLow, giveHigh));
        remember();
        now.contracts.put(new Link(caller, p), contract);
        return count(false);
    }

    public int drop(int caller, int p) {
        existing(caller, p);
        remember();
        now.contracts.remove(new Link(caller, p));
        return now.contracts.size();
    }

    public int call(int p, int x) {
        exists(p);
        within(x, -999, 999);
        remember();
        return now.fromOutside(p, x);
    }

    public int undo() {
        if (before.isEmpty()) {
            throw new IllegalStateException();
        }
        now = before.removeLast();
        return before.size();
    }

    public int would(int p, int x, int what) {
        exists(p);
        within(x, -999, 999);
        within(what, 0, 4);
        State then = now.copy();
        int given = then.fromOutside(p, x);
        List<int[]> fresh = then.blames.subList(now.blames.size(), then.blames.size());
        int caught = (int) fresh.stream().filter(row -> row[5] == 1).count();
        int[] out = given == NONE ? fresh.get(fresh.size() - 1) : null;
        int[] all = {given, out == null ? 0 : out[0], out == null ? NONE : blamed(out), out == null ? 0 : out[4], caught};
        return all[what];
    }

    public int stands(int caller, int p, int other, int q) {
        return existing(caller, p).mayStandFor(existing(other, q)) ? 1 : 0;
    }

    public int holes() {
        int count = 0;
        for (Link link : now.contracts.keySet()) {
            Contract own = now.contracts.get(new Link(OWN, link.p));
            if (link.caller != OWN && own != null && !own.mayStandFor(now.contracts.get(link))) {
                count++;
            }
        }
        return count;
    }

    private boolean isBad(int p, int x) {
        return now.copy().fromOutside(p, x) == NONE;
    }

    public int firstBad(int p, int low, int many) {
        exists(p);
        within(low, -999, 999);
        within(many, 1, 200);
        for (int x = low; x < low + many; x++) {
            if (isBad(p, x)) {
                return x;
            }
        }
        return NONE;
    }

    public int mostBlamed(int p, int low, int many) {
        exists(p);
        within(low, -999, 999);
        within(many, 1, 200);
        int[] times = new int[10];
        for (int x = low; x < low + many; x++) {
            State then = now.copy();
            then.fromOutside(p, x);
            for (int[] row : then.blames.subList(now.blames.size(), then.blames.size())) {
                if (blamed(row) != NONE) {
                    times[blamed(row)]++;
                }
            }
        }
        int best = NONE;
        for (int q = 9; q >= 0; q--) {
            if (times[q] > 0 && (best == NONE || times[q] >= times[best])) {
                best = q;
            }
        }
        return best;
    }

    public int reach(int p, int x, boolean high) {
        exists(p);
        within(x, -999, 999);
        if (isBad(p, x)) {
            return NONE;
        }
        int at = x;
        while (Math.abs(at - x) < 200 && !isBad(p, high ? at + 1 : at - 1)) {
            at += high ? 1 : -1;
        }
        return at;
    }

    public int runScript(int n, long script) {
        within(n, 1, 3);
        String digits = Long.toString(script);
        if (script < 0 || digits.length() > 5 * n) {
            throw new IllegalArgumentException();
        }
        digits = "0".repeat(5 * n - digits.length()) + digits;
        Model other = new Model();
        other.now = now.copy();
        for (int i = 0; i < n; i++) {
            boolean good;
            try {
                good = other.succeeds(digits.substring(5 * i, 5 * i + 5));
            } catch (IllegalArgumentException | IllegalStateException | IndexOutOfBoundsException e) {
                good = false;
            }
            if (!good) {
                return i;
            }
        }
        return NONE;
    }

    private boolean succeeds(String g) {
        int p = g.charAt(1) - '0';
        int q = g.charAt(2) - '0';
        int xyz = Integer.parseInt(g.substring(2)) - 500;
        int nn = Integer.parseInt(g.substring(3));
        if (g.matches("1....")) {
            return call(p, xyz) != NONE;
        } else if (g.matches("2....")) {
            return call(p, xyz) == NONE;
        } else if (g.matches("3..00")) {
            return chain(p, q, 0) > 0;
        } else if (g.matches("4.0..")) {
            return net(p, nn) >= NONE;
        } else if (g.matches("5.000")) {
            return drop(OWN, p) >= 0;
        } else if (g.matches("6..00")) {
            return drop(p, q) >= 0;
        } else if (g.matches("7.0..")) {
            return part(p, 6) <= nn;
        } else if (g.matches("800..")) {
            return about(5) <= nn;
        }
        return g.matches("9....") && would(p, 0, 0) == xyz;
    }

    public int simulate(long seed, int m) {
        within(m, 1, 99);
        if (now.parts.isEmpty()) {
            return 0;
        }
        State then = now.copy();
        long x = seed;
        for (int i = 0; i < m; i++) {
            x = x * 6364136223846793005L + 1442695040888963407L;
            int r = (int) (x >>> 33);
            then.fromOutside(r % then.parts.size(), r / 16 % 201 - 100);
        }
        TreeSet<Integer> different = new TreeSet<>();
        int caught = 0;
        for (int[] row : then.blames.subList(now.blames.size(), then.blames.size())) {
            caught += row[5];
            if (blamed(row) != NONE) {
                different.add(blamed(row));
            }
        }
        return 10000 * (then.cameOut - now.cameOut) + 100 * caught + different.size();
    }

    public int save(int slot) {
        if (slot < 0 || slot > 1) {
            throw new IndexOutOfBoundsException();
        }
        slots[slot] = now.copy();
        return now.parts.size();
    }

    public int restore(int slot) {
        if (slot < 0 || slot > 1) {
            throw new IndexOutOfBoundsException();
        }
        if (slots[slot] == null) {
            throw new IllegalStateException();
        }
        now = slots[slot].copy();
        before.clear();
        return now.parts.size();
    }
}

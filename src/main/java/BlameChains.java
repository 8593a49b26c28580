import java.util.Arrays;

/** Parts that call one another in chains, contracts between them, and who is blamed when one is broken. */
public final class BlameChains {
    public static final int NONE = -10000;

    /** What a caller is told as where a part's own contract is meant. */
    private static final int OWN = NONE - 1;
    private static final int MOST_PARTS = 10;
    private static final int MOST_BOUND = 9999;
    private static final int MOST_FACTOR = 9;
    private static final int MOST_SMALL = 99;
    private static final int MOST_INPUT = 999;
    private static final int MOST_TRIES = 200;
    private static final int MOST_CODE = 255;
    private static final int SLOTS = 2;

    private final Text text = new Text();
    private final Plan plan = new Plan();
    private final Plan copy = new Plan();
    private final Plan trial = new Plan();
    private final Memory memory = new Memory();
    private final Plan[] saved = new Plan[SLOTS];
    private final boolean[] filled = new boolean[SLOTS];

    public BlameChains() {
        for (int slot = 0; slot < SLOTS; slot++) {
            saved[slot] = new Plan();
        }
    }

    // ---- text

    public int append(int c) throws IllegalArgumentException, IllegalStateException {
        needArgument(isWithin(c, 0, MOST_CODE));
        needState(!text.isFull());
        text.put(c);
        return text.size();
    }

    public int clearText() {
        int before = text.size();
        text.empty();
        return before;
    }

    public int errorPosition() {
        return text.firstError();
    }

    public int load() throws IllegalStateException {
        needState(text.firstError() == NONE);
        plan.makeNew();
        memory.forgetAll();
        for (int slot = 0; slot < SLOTS; slot++) {
            filled[slot] = false;
        }
        return new Loader(text, plan).doCommands();
    }

    // ---- what there is

    public int about(int what) throws IllegalArgumentException {
        needArgument(isWithin(what, 0, 8));
        switch (what) {
            case 0: return plan.parts;
            case 1: return plan.contracts.countOwn();
            case 2: return plan.contracts.countLinks();
            case 3: return plan.calls;
            case 4: return plan.callsFromOutside;
            case 5: return plan.arisen;
            case 6: return plan.cameOut;
            case 7: return plan.caught;
            default: return plan.blames.lastKind();
        }
    }

    public int part(int p, int what) throws IndexOutOfBoundsException, IllegalArgumentException {
        needPart(p);
        needArgument(isWithin(what, 0, 8));
        return what < Plan.PART_NUMBERS ? plan.ofPart(p, what) : plan.chainLength(p);
    }

    public int contract(int caller, int p, int what) throws IndexOutOfBoundsException, IllegalArgumentException {
        needContract(caller, p);
        needArgument(isWithin(what, 0, 3));
        return plan.contracts.bound(plan.contracts.find(caller, p), what);
    }

    public int blame(int k, int what) throws IllegalArgumentException {
        needArgument(isWithin(k, 0, 9) && isWithin(what, 0, 5));
        return plan.blames.tell(k, what);
    }

    // ---- actions

    public int add(int factor, int more) throws IllegalArgumentException, IllegalStateException {
        needArgument(isWithin(factor, -MOST_FACTOR, MOST_FACTOR) && isSmall(more));
        needState(plan.hasRoom());
        memory.remember(plan);
        plan.addPart(factor, more);
        return plan.parts - 1;
    }

    public int chain(int p, int next, int step) throws IndexOutOfBoundsException, IllegalArgumentException {
        needPart(p);
        needArgument((next == NONE || plan.mayChainTo(p, next)) && isSmall(step));
        memory.remember(plan);
        plan.chainTo(p, next, step);
        return plan.chainLength(p);
    }

    public int net(int p, int net) throws IndexOutOfBoundsException, IllegalArgumentException {
        needPart(p);
        needArgument(net == NONE || isSmall(net));
        memory.remember(plan);
        int before = plan.ofPart(p, Plan.NET);
        plan.setNet(p, net);
        return before;
    }

    public int own(int p, int askLow, int askHigh, int giveLow, int giveHigh)
            throws IndexOutOfBoundsException, IllegalArgumentException {
        needPart(p);
        needArgument(isRange(askLow, askHigh) && isRange(giveLow, giveHigh));
        memory.remember(plan);
        plan.contracts.put(OWN, p, askLow, askHigh, giveLow, giveHigh);
        return plan.contracts.countOwn();
    }

    public int link(int caller, int p, int askLow, int askHigh, int giveLow, int giveHigh)
            throws IndexOutOfBoundsException, IllegalArgumentException {
        needPart(p);
        needArgument(caller == NONE || (plan.hasPart(caller) && caller > p));
        needArgument(isRange(askLow, askHigh) && isRange(giveLow, giveHigh));
        memory.remember(plan);
        plan.contracts.put(caller, p, askLow, askHigh, giveLow, giveHigh);
        return plan.contracts.countLinks();
    }

    public int drop(int caller, int p) throws IndexOutOfBoundsException {
        needContract(caller, p);
        memory.remember(plan);
        plan.contracts.remove(caller, p);
        return plan.contracts.countOwn() + plan.contracts.countLinks();
    }

    public int call(int p, int x) throws IndexOutOfBoundsException, IllegalArgumentException {
        needPart(p);
        needArgument(isInput(x));
        memory.remember(plan);
        return plan.callFromOutside(p, x);
    }

    public int undo() throws IllegalStateException {
        needState(memory.size() > 0);
        memory.takeBackInto(plan);
        return memory.size();
    }

    // ---- what would be

    public int would(int p, int x, int what) throws IndexOutOfBoundsException, IllegalArgumentException {
        needPart(p);
        needArgument(isInput(x) && isWithin(what, 0, 4));
        trial.copyFrom(plan);
        int given = trial.callFromOutside(p, x);
        boolean comesOut = given == NONE;
        switch (what) {
            case 0: return given;
            case 1: return comesOut ? trial.blames.lastKind() : 0;
            case 2: return comesOut ? trial.blames.lastBlamedPart() : NONE;
            case 3: return comesOut ? trial.blames.tell(0, Blames.HEIGHT) : 0;
            default: return trial.caught - plan.caught;
        }
    }

    public int stands(int caller, int p, int other, int q) throws IndexOutOfBoundsException {
        needContract(caller, p);
        needContract(other, q);
        Contracts all = plan.contracts;
        return all.mayStandFor(all.find(caller, p), all.find(other, q)) ? 1 : 0;
    }

    public int holes() {
        return plan.contracts.countHoles();
    }

    public int firstBad(int p, int low, int many) throws IndexOutOfBoundsException, IllegalArgumentException {
        needPart(p);
        needArgument(isInput(low) && isWithin(many, 1, MOST_TRIES));
        trial.copyFrom(plan);
        for (int i = 0; i < many; i++) {
            if (trial.callFromOutside(p, low + i) == NONE) {
                return low + i;
            }
        }
        return NONE;
    }

    public int mostBlamed(int p, int low, int many) throws IndexOutOfBoundsException, IllegalArgumentException {
        needPart(p);
        needArgument(isInput(low) && isWithin(many, 1, MOST_TRIES));
        trial.copyFrom(plan);
        for (int i = 0; i < many; i++) {
            trial.callFromOutside(p, low + i);
        }
        int most = 0;
        int found = NONE;
        for (int q = 0; q < plan.parts; q++) {
            int times = blamedSince(trial, q);
            if (times > most) {
                most = times;
                found = q;
            }
        }
        return found;
    }

    public int reach(int p, int x, boolean high) throws IndexOutOfBoundsException, IllegalArgumentException {
        needPart(p);
        needArgument(isInput(x));
        int direction = high ? 1 : -1;
        int farthest = NONE;
        trial.copyFrom(plan);
        for (int away = 0; away <= MOST_TRIES; away++) {
            int number = x + direction * away;
            if (trial.callFromOutside(p, number) == NONE) {
                return farthest;
            }
            farthest = number;
        }
        return farthest;
    }

    // ---- scripts, simulations

    public int runScript(int n, long script) throws IllegalArgumentException {
        needArgument(isWithin(n, 1, Script.MOST_COMMANDS));
        needArgument(script >= 0 && Script.groupFromRight(script, n) == 0);
        copy.copyFrom(plan);
        Script commands = new Script(copy, trial);
        for (int i = 0; i < n; i++) {
            int group = (int) (Script.groupFromRight(script, n - 1 - i) % Script.GROUP);
            if (!commands.succeeds(group)) {
                return i;
            }
        }
        return NONE;
    }

    public int simulate(long seed, int m) throws IllegalArgumentException {
        needArgument(isWithin(m, 1, 99));
        int parts = plan.parts;
        if (parts <= 0) {
            return 0;
        }
        copy.copyFrom(plan);
        long x = seed;
        for (int i = 0; i < m; i++) {
            x = x * 6364136223846793005L + 1442695040888963407L;
            int r = (int) (x >>> 33);
            copy.callFromOutside(r % parts, r / 16 % 201 - 100);
        }
        int different = 0;
        for (int p = 0; p < parts; p++) {
            if (blamedSince(copy, p) > 0) {
                different++;
            }
        }
        return 10000 * (copy.cameOut - plan.cameOut) + 100 * (copy.caught - plan.caught) + different;
    }

    // ---- save slots

    public int save(int slot) throws IndexOutOfBoundsException {
        needSlot(slot);
        saved[slot].copyFrom(plan);
        filled[slot] = true;
        return plan.parts;
    }

    public int restore(int slot) throws IndexOutOfBoundsException, IllegalStateException {
        needSlot(slot);
        needState(filled[slot]);
        plan.copyFrom(saved[slot]);
        memory.forgetAll();
        return plan.parts;
    }

    // ---- what the methods above ask first

    private static boolean isWithin(int number, int low, int high) {
        return number >= low && number <= high;
    }

    private static boolean isSmall(int number) {
        return isWithin(number, -MOST_SMALL, MOST_SMALL);
    }

    private static boolean isInput(int x) {
        return isWithin(x, -MOST_INPUT, MOST_INPUT);
    }

    private static boolean isRange(int low, int high) {
        return low >= -MOST_BOUND && low <= high && high <= MOST_BOUND;
    }

    private static void needArgument(boolean holds) {
        if (!holds) {
            throw new IllegalArgumentException("an argument is out of its range");
        }
    }

    private static void needState(boolean holds) {
        if (!holds) {
            throw new IllegalStateException("the state does not allow this call");
        }
    }

    private static void needSlot(int slot) {
        if (!isWithin(slot, 0, SLOTS - 1)) {
            throw new IndexOutOfBoundsException("there is no such save slot");
        }
    }

    private void needPart(int p) {
        if (!plan.hasPart(p)) {
            throw new IndexOutOfBoundsException("there is no such part");
        }
    }

    private void needContract(int caller, int p) {
        if (!plan.contracts.isThere(caller, p)) {
            throw new IndexOutOfBoundsException("there is no such part or contract");
        }
    }

    /** How often a part was blamed in a copy of the plan, beyond what the plan itself has. */
    private int blamedSince(Plan changed, int p) {
        return changed.ofPart(p, Plan.BLAMED) - plan.ofPart(p, Plan.BLAMED);
    }

    /** The state: the parts, their contracts, and what the calls brought so far. */
    private static final class Plan {
        static final int FACTOR = 0;
        static final int MORE = 1;
        static final int NEXT = 2;
        static final int STEP = 3;
        static final int NET = 4;
        static final int CALLED = 5;
        static final int BLAMED = 6;
        static final int CATCHES = 7;
        static final int PART_NUMBERS = 8;

        private final Contracts contracts = new Contracts();
        private final Blames blames = new Blames();
        private final int[] numbers = new int[MOST_PARTS * PART_NUMBERS];
        private int parts;
        private int calls;
        private int callsFromOutside;
        private int arisen;
        private int cameOut;
        private int caught;

        void makeNew() {
            contracts.removeAll();
            blames.forgetAll();
            parts = 0;
            calls = 0;
            callsFromOutside = 0;
            arisen = 0;
            cameOut = 0;
            caught = 0;
        }

        void copyFrom(Plan other) {
            contracts.copyFrom(other.contracts);
            blames.copyFrom(other.blames);
            System.arraycopy(other.numbers, 0, numbers, 0, numbers.length);
            parts = other.parts;
            calls = other.calls;
            callsFromOutside = other.callsFromOutside;
            arisen = other.arisen;
            cameOut = other.cameOut;
            caught = other.caught;
        }

        boolean hasPart(int p) {
            return p >= 0 && p < parts;
        }

        boolean hasRoom() {
            return parts < MOST_PARTS;
        }

        boolean mayChainTo(int p, int next) {
            return next >= 0 && next < p;
        }

        int ofPart(int p, int what) {
            return p >= 0 && p < MOST_PARTS ? numbers[p * PART_NUMBERS + what] : NONE;
        }

        void addPart(int factor, int more) {
            int p = parts;
            parts++;
            setNumber(p, FACTOR, factor);
            setNumber(p, MORE, more);
            chainTo(p, NONE, 0);
            setNet(p, NONE);
            setNumber(p, CALLED, 0);
            setNumber(p, BLAMED, 0);
            setNumber(p, CATCHES, 0);
        }

        void chainTo(int p, int next, int step) {
            setNumber(p, NEXT, next);
            setNumber(p, STEP, next == NONE ? NONE : step);
        }

        void setNet(int p, int net) {
            setNumber(p, NET, net);
        }

        int chainLength(int p) {
            int length = 1;
            int next = ofPart(p, NEXT);
            while (next != NONE && length < MOST_PARTS) {
                length++;
                next = ofPart(next, NEXT);
            }
            return length;
        }

        /** Answers the number that is given, NONE if blame comes to the outside. */
        int callFromOutside(int p, int x) {
            callsFromOutside++;
            int given = callOver(NONE, p, x, 1);
            if (given == NONE) {
                cameOut++;
            }
            return given;
        }

        /** One call over a link; NONE if blame ended it. The depth is the number of calls that stand open. */
        private int callOver(int caller, int p, int x, int depth) {
            calls++;
            countOne(p, CALLED);
            int onLink = contracts.find(caller, p);
            int ofPart = contracts.find(OWN, p);
            if (onLink != NONE && !contracts.asks(onLink, x)) {
                return accuse(Blames.CALLER_BLAMED, caller, p, x);
            }
            if (ofPart != NONE && !contracts.asks(ofPart, x)) {
                return accuse(onLink != NONE ? Blames.LINK_BLAMED : Blames.CALLER_BLAMED, caller, p, x);
            }
            int given = reckon(p, x, depth);
            if (given == NONE) {
                return NONE;
            }
            if (ofPart != NONE && !contracts.gives(ofPart, given)) {
                return accuse(Blames.PART_BLAMED, caller, p, given);
            }
            if (onLink != NONE && !contracts.gives(onLink, given)) {
                return accuse(ofPart != NONE ? Blames.LINK_BLAMED : Blames.PART_BLAMED, caller, p, given);
            }
            return given;
        }

        /** What a part gives before its give is looked at; NONE if blame goes up through it. */
        private int reckon(int p, int x, int depth) {
            int next = ofPart(p, NEXT);
            int z = x;
            if (next != NONE && depth < MOST_PARTS) {
                z = callOver(p, next, x + ofPart(p, STEP), depth + 1);
                if (z == NONE) {
                    return afterBlame(p);
                }
            }
            int exact = ofPart(p, FACTOR) * z + ofPart(p, MORE);
            return Math.max(-MOST_BOUND, Math.min(MOST_BOUND, exact));
        }

        /** What a part gives when the part that it called was ended by blame: its net, or NONE without one. */
        private int afterBlame(int p) {
            int net = ofPart(p, NET);
            if (net == NONE) {
                blames.goHigher();
            } else {
                blames.markCaught();
                countOne(p, CATCHES);
                caught++;
            }
            return net;
        }

        /** Lets blame arise. Answers NONE, for the call that it ends. */
        private int accuse(int kind, int caller, int p, int number) {
            arisen++;
            blames.arise(kind, caller, p, number);
            int blamed = Blames.blamedPart(kind, caller, p);
            if (blamed != NONE) {
                countOne(blamed, BLAMED);
            }
            return NONE;
        }

        private void countOne(int p, int what) {
            if (p >= 0 && p < MOST_PARTS) {
                numbers[p * PART_NUMBERS + what]++;
            }
        }

        private void setNumber(int p, int what, int number) {
            if (p >= 0 && p < MOST_PARTS) {
                numbers[p * PART_NUMBERS + what] = number;
            }
        }
    }

    /** The contracts of all parts and links, four bounds each. */
    private static final class Contracts {
        static final int ASK_LOW = 0;
        static final int ASK_HIGH = 1;
        static final int GIVE_LOW = 2;
        static final int GIVE_HIGH = 3;
        static final int BOUNDS = 4;
        /** Rows 0 to 9 are for the links from parts, then one for those from the outside, one for own contracts. */
        static final int OUTSIDE_ROW = MOST_PARTS;
        static final int OWN_ROW = MOST_PARTS + 1;
        static final int ROWS = MOST_PARTS + 2;

        /** The low bound of the ask is NONE where there is no contract. */
        private final int[] bounds = new int[ROWS * MOST_PARTS * BOUNDS];

        Contracts() {
            Arrays.fill(bounds, NONE);
        }

        void removeAll() {
            Arrays.fill(bounds, NONE);
        }

        void copyFrom(Contracts other) {
            System.arraycopy(other.bounds, 0, bounds, 0, bounds.length);
        }

        /** Where the bounds of a contract begin, NONE if there is no such contract. */
        int find(int caller, int p) {
            int place = placeFor(caller, p);
            return place != NONE && bounds[place] != NONE ? place : NONE;
        }

        boolean isThere(int caller, int p) {
            return find(caller, p) != NONE;
        }

        int bound(int place, int what) {
            return bounds[place + what];
        }

        void put(int caller, int p, int askLow, int askHigh, int giveLow, int giveHigh) {
            int place = placeFor(caller, p);
            if (place != NONE) {
                bounds[place + ASK_LOW] = askLow;
                bounds[place + ASK_HIGH] = askHigh;
                bounds[place + GIVE_LOW] = giveLow;
                bounds[place + GIVE_HIGH] = giveHigh;
            }
        }

        /** Answers whether there was such a contract. */
        boolean remove(int caller, int p) {
            int place = find(caller, p);
            if (place == NONE) {
                return false;
            }
            bounds[place] = NONE;
            return true;
        }

        boolean asks(int place, int x) {
            return x >= bounds[place + ASK_LOW] && x <= bounds[place + ASK_HIGH];
        }

        boolean gives(int place, int number) {
            return number >= bounds[place + GIVE_LOW] && number <= bounds[place + GIVE_HIGH];
        }

        boolean mayStandFor(int one, int other) {
            return bounds[one + ASK_LOW] <= bounds[other + ASK_LOW]
                && bounds[one + ASK_HIGH] >= bounds[other + ASK_HIGH]
                && bounds[one + GIVE_LOW] >= bounds[other + GIVE_LOW]
                && bounds[one + GIVE_HIGH] <= bounds[other + GIVE_HIGH];
        }

        int countOwn() {
            return countRow(OWN_ROW);
        }

        int countLinks() {
            int count = 0;
            for (int row = 0; row <= OUTSIDE_ROW; row++) {
                count += countRow(row);
            }
            return count;
        }

        int countHoles() {
            int count = 0;
            for (int row = 0; row <= OUTSIDE_ROW; row++) {
                for (int p = 0; p < MOST_PARTS; p++) {
                    int onLink = place(row, p);
                    int ofPart = place(OWN_ROW, p);
                    if (bounds[onLink] != NONE && bounds[ofPart] != NONE && !mayStandFor(ofPart, onLink)) {
                        count++;
                    }
                }
            }
            return count;
        }

        private int countRow(int row) {
            int count = 0;
            for (int p = 0; p < MOST_PARTS; p++) {
                if (bounds[place(row, p)] != NONE) {
                    count++;
                }
            }
            return count;
        }

        /** Where the bounds would begin, NONE if there can be no such contract. */
        private static int placeFor(int caller, int p) {
            int row = caller;
            if (caller == OWN) {
                row = OWN_ROW;
            } else if (caller == NONE) {
                row = OUTSIDE_ROW;
            } else if (caller <= p || caller >= MOST_PARTS) {
                return NONE;
            }
            return p >= 0 && p < MOST_PARTS ? place(row, p) : NONE;
        }

        private static int place(int row, int p) {
            return (row * MOST_PARTS + p) * BOUNDS;
        }
    }

    /** The blames that arose last, the newest one first. */
    private static final class Blames {
        static final int CALLER_BLAMED = 1;
        static final int PART_BLAMED = 2;
        static final int LINK_BLAMED = 3;

        static final int KIND = 0;
        static final int CALLER = 1;
        static final int PART = 2;
        static final int NUMBER = 3;
        static final int HEIGHT = 4;
        static final int WAS_CAUGHT = 5;
        static final int BLAME_NUMBERS = 6;
        static final int MOST_KEPT = 10;

        private final int[] numbers = new int[MOST_KEPT * BLAME_NUMBERS];
        private int kept;

        void forgetAll() {
            kept = 0;
        }

        void copyFrom(Blames other) {
            System.arraycopy(other.numbers, 0, numbers, 0, numbers.length);
            kept = other.kept;
        }

        void arise(int kind, int caller, int p, int number) {
            System.arraycopy(numbers, 0, numbers, BLAME_NUMBERS, numbers.length - BLAME_NUMBERS);
            numbers[KIND] = kind;
            numbers[CALLER] = caller;
            numbers[PART] = p;
            numbers[NUMBER] = number;
            numbers[HEIGHT] = 1;
            numbers[WAS_CAUGHT] = 0;
            kept = Math.min(kept + 1, MOST_KEPT);
        }

        void goHigher() {
            numbers[HEIGHT]++;
        }

        void markCaught() {
            numbers[WAS_CAUGHT] = 1;
        }

        int tell(int k, int what) {
            return k < kept ? numbers[k * BLAME_NUMBERS + what] : NONE;
        }

        int lastKind() {
            return kept > 0 ? numbers[KIND] : 0;
        }

        int lastBlamedPart() {
            return blamedPart(lastKind(), numbers[CALLER], numbers[PART]);
        }

        /** NONE for the outside, for a link alone, and for no kind. */
        static int blamedPart(int kind, int caller, int p) {
            switch (kind) {
                case CALLER_BLAMED: return caller;
                case PART_BLAMED: return p;
                default: return NONE;
            }
        }
    }

    /** The states before the last actions; a full memory writes over the oldest one. */
    private static final class Memory {
        static final int MOST_REMEMBERED = 14;

        private final Plan[] plans = new Plan[MOST_REMEMBERED];
        private int next;
        private int kept;

        Memory() {
            for (int i = 0; i < MOST_REMEMBERED; i++) {
                plans[i] = new Plan();
            }
        }

        int size() {
            return kept;
        }

        void forgetAll() {
            kept = 0;
        }

        void remember(Plan plan) {
            plans[next].copyFrom(plan);
            next = (next + 1) % MOST_REMEMBERED;
            kept = Math.min(kept + 1, MOST_REMEMBERED);
        }

        void takeBackInto(Plan plan) {
            next = (next + MOST_REMEMBERED - 1) % MOST_REMEMBERED;
            kept--;
            plan.copyFrom(plans[next]);
        }
    }

    /** The text buffer, and which texts are plans. */
    private static final class Text {
        static final int MOST_SIGNS = 120;
        /** What may follow a command's letter: s is a sign, d a digit, 0 the digit 0 alone. */
        static final String AFTER_ADD = "s0dsdd";
        static final String AFTER_CHAIN = "ddsdd";
        static final String AFTER_OWN = "dsddsddsddsdd";
        static final String AFTER_CALL = "sdd";
        static final String AFTER_DROP = "d";
        static final String NO_COMMAND = "";

        private final char[] signs = new char[MOST_SIGNS];
        private int length;

        int size() {
            return length;
        }

        boolean isFull() {
            return length >= MOST_SIGNS;
        }

        void put(int code) {
            if (!isFull()) {
                signs[length] = (char) code;
                length++;
            }
        }

        void empty() {
            length = 0;
        }

        /** The code of a character, -1 behind the end. */
        int codeAt(int at) {
            return at >= 0 && at < length ? signs[at] : -1;
        }

        /** The index of the first character that is not allowed, NONE if the text is a plan. */
        int firstError() {
            if (codeAt(0) != 'C') {
                return 0;
            }
            int at = 1;
            while (at < length) {
                String after = shapeAfter(codeAt(at));
                if (after.isEmpty()) {
                    return at;
                }
                at++;
                for (int i = 0; i < after.length(); i++) {
                    if (!fits(codeAt(at), after.charAt(i))) {
                        return at;
                    }
                    at++;
                }
            }
            return NONE;
        }

        private static String shapeAfter(int command) {
            switch (command) {
                case 'n': return AFTER_ADD;
                case 's': return AFTER_CHAIN;
                case 'o': return AFTER_OWN;
                case 'k': return AFTER_CALL;
                case 'x': return AFTER_DROP;
                default: return NO_COMMAND;
            }
        }

        private static boolean fits(int code, char shape) {
            switch ((int) shape) {
                case 's': return code == '+' || code == '-';
                case '0': return code == '0';
                default: return code >= '0' && code <= '9';
            }
        }
    }

    /** Does the commands of a text that is a plan, one after the other. */
    private static final class Loader {
        private final Text text;
        private final Plan plan;
        private int at;

        Loader(Text text, Plan plan) {
            this.text = text;
            this.plan = plan;
        }

        /** Answers how many commands are left out. */
        int doCommands() {
            int leftOut = 0;
            at = 1;
            while (at < text.size()) {
                int command = text.codeAt(at);
                boolean done;
                at++;
                switch (command) {
                    case 'n': done = isAdded(); break;
                    case 's': done = isChained(); break;
                    case 'o': done = isOwned(); break;
                    case 'k': done = isCalled(); break;
                    default: done = plan.contracts.remove(OWN, readDigit()); break;
                }
                if (!done) {
                    leftOut++;
                }
            }
            return leftOut;
        }

        // A command that is left out is read to its end too, so that the next one is found: these four read first.

        private boolean isAdded() {
            int factor = readSigned();
            int more = readSigned();
            if (!plan.hasRoom()) {
                return false;
            }
            plan.addPart(factor, more);
            return true;
        }

        private boolean isChained() {
            int p = readDigit();
            int next = readDigit();
            int step = readSigned();
            if (!plan.hasPart(p) || !plan.mayChainTo(p, next)) {
                return false;
            }
            plan.chainTo(p, next, step);
            return true;
        }

        private boolean isOwned() {
            int p = readDigit();
            int askLow = readSigned();
            int askHigh = readSigned();
            int giveLow = readSigned();
            int giveHigh = readSigned();
            if (!plan.hasPart(p) || !isRange(askLow, askHigh) || !isRange(giveLow, giveHigh)) {
                return false;
            }
            plan.contracts.put(OWN, p, askLow, askHigh, giveLow, giveHigh);
            return true;
        }

        private boolean isCalled() {
            int x = readSigned();
            int last = plan.parts - 1;
            if (!plan.hasPart(last)) {
                return false;
            }
            plan.callFromOutside(last, x);
            return true;
        }

        private int readDigit() {
            int digit = text.codeAt(at) - '0';
            at++;
            return digit;
        }

        private int readSigned() {
            boolean negative = text.codeAt(at) == '-';
            at++;
            int tens = readDigit();
            int size = 10 * tens + readDigit();
            return negative ? -size : size;
        }
    }

    /** The commands of a script, done on a copy of the plan. */
    private static final class Script {
        static final int MOST_COMMANDS = 3;
        static final long GROUP = 100000L;
        static final int MIDDLE = 500;

        private final Plan copy;
        private final Plan trial;

        Script(Plan copy, Plan trial) {
            this.copy = copy;
            this.trial = trial;
        }

        /** What is left of a script without so many groups at its right end. */
        static long groupFromRight(long script, int groups) {
            long left = script;
            for (int i = 0; i < groups; i++) {
                left = left / GROUP;
            }
            return left;
        }

        boolean succeeds(int group) {
            int second = group / 1000 % 10;
            int third = group / 100 % 10;
            int nn = group % 100;
            int number = group % 1000 - MIDDLE;
            switch (group / 10000) {
                case 1: return copy.hasPart(second) && copy.callFromOutside(second, number) != NONE;
                case 2: return copy.hasPart(second) && copy.callFromOutside(second, number) == NONE;
                case 3: return nn == 0 && isChained(second, third);
                case 4: return third == 0 && isNetted(second, nn);
                case 5: return third == 0 && nn == 0 && copy.contracts.remove(OWN, second);
                case 6: return nn == 0 && copy.contracts.remove(second, third);
                case 7: return third == 0 && copy.hasPart(second) && copy.ofPart(second, Plan.BLAMED) <= nn;
                case 8: return second == 0 && third == 0 && copy.arisen <= nn;
                case 9: return copy.hasPart(second) && wouldGive(second) == number;
                default: return false;
            }
        }

        private boolean isChained(int p, int next) {
            if (!copy.hasPart(p) || !copy.mayChainTo(p, next)) {
                return false;
            }
            copy.chainTo(p, next, 0);
            return true;
        }

        private boolean isNetted(int p, int net) {
            if (!copy.hasPart(p)) {
                return false;
            }
            copy.setNet(p, net);
            return true;
        }

        /** On a copy of the copy, since this command only asks: later commands must not see its blame. */
        private int wouldGive(int p) {
            trial.copyFrom(copy);
            return trial.callFromOutside(p, 0);
        }
    }
}

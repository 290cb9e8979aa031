import java.util.Arrays;
import java.util.NoSuchElementException;

/**
 * Small programs that are checked before they run: a program that passes touches only its own
 * memory, always ends, and has just the values that the check foretold.
 */
public final class FilterGuard {
    private static final int MOST_INSTRUCTIONS = 200;
    private static final int MOST_GONE = 10000;
    private static final int MOST_WAITING = 100;
    private static final int MOST_LOGGED = 100;

    private static final int MOST_MAPS = 4;
    private static final int MOST_KEY_BYTES = 8;
    private static final int MOST_VALUE_BYTES = 64;
    private static final int MOST_PLACES = 16;

    private static final int PACKET_BYTES = 400;
    private static final int FED_BYTES = 20;
    private static final int STACK_BYTES = 64;
    private static final int EIGHTS = 8;

    private static final int REGISTERS = 11;
    private static final int STACK_REGISTER = 10;
    /** Registers and the STACK's eights are told of alike, so that one can be copied to the other. */
    private static final int ENTRIES = REGISTERS + EIGHTS;

    private static final int MOVE = 0;
    private static final int ADD = 1;
    private static final int SUB = 2;
    private static final int MUL = 3;
    private static final int DIV = 4;
    private static final int MOD = 5;
    private static final int AND = 6;
    private static final int OR = 7;
    private static final int XOR = 8;
    private static final int LEFT = 9;
    private static final int RIGHT = 10;
    private static final int SIGNED_RIGHT = 11;
    private static final int NEG = 12;
    private static final int LAST_ARITHMETIC = 60;
    /** The bits of a SORT that say which operation it is, that B is imm, that it is of 32 bits. */
    private static final int OPERATION = 15;
    private static final int BY_IMM = 16;
    private static final int NARROW = 32;

    private static final int GO = 64;
    private static final int EQUAL = 65;
    private static final int UNEQUAL = 66;
    private static final int BELOW = 67;
    private static final int SIGNED_BELOW = 71;
    private static final int ANY_BIT = 75;
    private static final int LAST_CONDITION = 91;
    private static final int LOAD = 96;
    private static final int STORE = 100;
    private static final int STORE_IMM = 104;
    private static final int LAST_STORE = 107;
    private static final int CALL = 112;
    private static final int EXIT = 113;
    private static final int NAME_MAP = 114;

    private static final int LOOK = 1;
    private static final int PUT = 2;
    private static final int TAKE = 3;
    private static final int NOTE = 4;
    private static final int CHANCE = 5;

    /** What a register can be KNOWN to be. */
    private static final int NONE = 0;
    private static final int NUMBER = 1;
    private static final int STACK = 2;
    private static final int PACKET = 3;
    private static final int END = 4;
    private static final int VALUE = 5;
    private static final int MAYBE = 6;
    private static final int MAP = 7;

    private static final int BAD_FORM = 1;
    private static final int UNKNOWN_REGISTER = 2;
    private static final int MISPLACED_POINTER = 3;
    private static final int NO_MEMORY = 4;
    private static final int UNREADABLE = 5;
    private static final int BAD_CALL = 6;
    private static final int RUNS_OFF = 7;
    private static final int TOO_MUCH = 8;

    private static final long LEAST = 0x8000000000000000L;
    private static final long GREATEST = 0x7FFFFFFFFFFFFFFFL;
    private static final long LOW_32 = 0xFFFFFFFFL;
    private static final long FARTHEST = 4096L;
    private static final int ENDED = -1;

    /** Far enough apart that no pointer of one can be moved into another; 0 is no address. */
    private static final long STACK_AT = 0x10000L;
    private static final long PACKET_AT = 0x20000L;
    private static final long VALUES_AT = 0x30000L;

    private final Program program;
    private final Maps maps;
    private final Memory memory;
    private final Foretold foretold;
    private final Checker checker;
    private final Runner runner;
    private boolean passed;

    public FilterGuard() {
        program = new Program();
        maps = new Maps();
        memory = new Memory(maps);
        foretold = new Foretold();
        checker = new Checker(program, maps, foretold);
        runner = new Runner(program, foretold, memory);
        passed = false;
    }

    public int map(int key, int value, int places) throws IllegalArgumentException, IllegalStateException {
        if (!within(key, 1, MOST_KEY_BYTES) || !within(value, 1, MOST_VALUE_BYTES) || !within(places, 1, MOST_PLACES)) {
            throw new IllegalArgumentException("no such size of a map");
        }
        if (passed || maps.size >= MOST_MAPS) {
            throw new IllegalStateException("no map can be made now");
        }
        return maps.append(key, value, places);
    }

    public int add(int sort, int dst, int src, int off, int imm) throws IllegalStateException {
        if (passed || program.size >= MOST_INSTRUCTIONS) {
            throw new IllegalStateException("no instruction can be added now");
        }
        return program.append(sort, dst, src, off, imm);
    }

    public int check() throws IllegalStateException {
        if (passed || program.size == 0) {
            throw new IllegalStateException("there is nothing to check");
        }
        int fault = checker.examine();
        passed = fault == 0;
        return fault;
    }

    public void clear() {
        program.size = 0;
        maps.forget();
        checker.forget();
        runner.forget();
        passed = false;
    }

    public int feed(int a, int b, int c, int d, int e) throws IndexOutOfBoundsException {
        if (memory.packetLength + FED_BYTES > PACKET_BYTES) {
            throw new IndexOutOfBoundsException("the packet would be too long");
        }
        memory.feedNumber(a);
        memory.feedNumber(b);
        memory.feedNumber(c);
        memory.feedNumber(d);
        memory.feedNumber(e);
        return memory.packetLength;
    }

    public int end(int n) throws IllegalArgumentException {
        if (!within(n, 0, memory.packetLength)) {
            throw new IllegalArgumentException("the packet has not so many bytes");
        }
        memory.packetLength -= n;
        return memory.packetLength;
    }

    public void seed(long s) {
        runner.chance = s;
    }

    public long run() throws IllegalStateException {
        if (!passed) {
            throw new IllegalStateException("no program passed");
        }
        return runner.outcome();
    }

    public int letter(int i) throws NoSuchElementException {
        if (!within(i, 0, memory.packetLength - 1)) {
            throw new NoSuchElementException("no such byte");
        }
        return memory.packet[i] & 255;
    }

    public int place(int map, int place, int i) throws NoSuchElementException {
        if (!maps.has(map, place) || !within(i, -1, maps.keyBytes[map] + maps.valueBytes[map] - 1)) {
            throw new NoSuchElementException("no such place or byte");
        }
        return maps.told(map, place, i);
    }

    public long log(int i) throws NoSuchElementException {
        if (!within(i, 0, runner.logged - 1)) {
            throw new NoSuchElementException("no such number in the log");
        }
        return runner.log[i];
    }

    public long known(int i, int r, int what) throws IllegalArgumentException, NoSuchElementException {
        if (!within(what, 0, 3)) {
            throw new IllegalArgumentException("nothing so numbered is foretold");
        }
        if (!passed || !within(i, 0, program.size - 1) || (what != 3 && !isRegister(r))) {
            throw new NoSuchElementException("no such instruction or register");
        }
        return foretold.told(i, r, what);
    }

    public int count(int what) {
        switch (what) {
            case 0: return program.size;
            case 1: return maps.size;
            case 2: return memory.packetLength;
            case 3: return runner.logged;
            case 4: return passed ? 1 : 0;
            case 5: return checker.fault;
            case 6: return checker.faultAt;
            case 7: return checker.gone;
            case 8: return runner.done;
            case 9: return runner.strays();
            default: return -1;
        }
    }

    private static boolean within(int number, int low, int high) {
        return number >= low && number <= high;
    }

    private static boolean isRegister(int number) {
        return within(number, 0, REGISTERS - 1);
    }

    /** What a SORT's number says of it. */
    private static final class Sorts {
        static boolean isArithmetic(int sort) {
            return within(sort, 0, LAST_ARITHMETIC) && (sort & OPERATION) <= NEG;
        }

        static boolean isCondition(int sort) {
            return within(sort, EQUAL, LAST_CONDITION) && within(sort & OPERATION, EQUAL - GO, ANY_BIT - GO);
        }

        static boolean isAny(int sort) {
            return isArithmetic(sort) || sort == GO || isCondition(sort)
                || within(sort, LOAD, LAST_STORE) || within(sort, CALL, NAME_MAP);
        }

        static boolean mayNameStackRegister(int sort) {
            return within(sort, EQUAL, LAST_CONDITION) || within(sort, STORE, LAST_STORE);
        }

        static int bytes(int sort) {
            return 1 << (sort & 3);
        }

        /** A condition without its mark for imm. */
        static int relation(int sort) {
            return sort & ~BY_IMM;
        }

        /**
         * What an order (without sign or with) says on one of its sides: 0 dst is below B, 1 not
         * above it, 2 above it, 3 not below it.
         */
        static int order(int relation, boolean truth) {
            int said = relation - (relation >= SIGNED_BELOW ? SIGNED_BELOW : BELOW);
            return truth ? said : 3 - said;
        }
    }

    /** The INSTRUCTIONS. */
    private static final class Program {
        final int[] sort = new int[MOST_INSTRUCTIONS];
        final int[] dst = new int[MOST_INSTRUCTIONS];
        final int[] src = new int[MOST_INSTRUCTIONS];
        final int[] off = new int[MOST_INSTRUCTIONS];
        final int[] imm = new int[MOST_INSTRUCTIONS];
        int size;

        int append(int newSort, int newDst, int newSrc, int newOff, int newImm) {
            sort[size] = newSort;
            dst[size] = newDst;
            src[size] = newSrc;
            off[size] = newOff;
            imm[size] = newImm;
            size++;
            return size - 1;
        }

        /** Whether a SORT that is one names src; NEG is 0 - dst in all its forms, so it doesn't. */
        boolean namesSource(int i) {
            if (sort[i] >= LOAD) {
                return sort[i] < STORE_IMM;
            }
            return (sort[i] & BY_IMM) == 0 && sort[i] != NEG && sort[i] != NEG + NARROW && sort[i] != GO;
        }

        /** Where a jump leads: inside of the PROGRAM, as FORM has it. */
        int target(int i) {
            return i + 1 + off[i];
        }

        /** The first INSTRUCTION that is not in FORM, or -1. */
        int firstOutOfForm(int maps) {
            for (int i = 0; i < size; i++) {
                if (!inForm(i, maps)) {
                    return i;
                }
            }
            return -1;
        }

        private boolean inForm(int i, int maps) {
            int s = sort[i];
            if (!Sorts.isAny(s) || !isRegister(dst[i])) {
                return false;
            }
            if (dst[i] == STACK_REGISTER && !Sorts.mayNameStackRegister(s)) {
                return false;
            }
            if (namesSource(i) && !isRegister(src[i])) {
                return false;
            }
            if ((s == GO || Sorts.isCondition(s)) && !leadsInside(i)) {
                return false;
            }
            if (s == CALL) {
                return within(imm[i], LOOK, CHANCE);
            }
            return s != NAME_MAP || within(imm[i], 0, maps - 1);
        }

        private boolean leadsInside(int i) {
            long to = i + 1L + off[i];
            return to >= 0 && to < size;
        }
    }

    /** The MAPS with their PLACES; a PLACE's number in the rows is map * 16 + place. */
    private static final class Maps {
        final int[] keyBytes = new int[MOST_MAPS];
        final int[] valueBytes = new int[MOST_MAPS];
        final byte[] values = new byte[MOST_MAPS * MOST_PLACES * MOST_VALUE_BYTES];
        /** The key that is looked for, or put. */
        final byte[] sought = new byte[MOST_KEY_BYTES];
        private final int[] places = new int[MOST_MAPS];
        private final boolean[] taken = new boolean[MOST_MAPS * MOST_PLACES];
        private final byte[] keys = new byte[MOST_MAPS * MOST_PLACES * MOST_KEY_BYTES];
        int size;

        int append(int key, int value, int newPlaces) {
            keyBytes[size] = key;
            valueBytes[size] = value;
            places[size] = newPlaces;
            size++;
            return size - 1;
        }

        void forget() {
            size = 0;
            Arrays.fill(keys, (byte) 0);
            Arrays.fill(values, (byte) 0);
            for (int n = 0; n < taken.length; n++) {
                taken[n] = false;
            }
        }

        boolean has(int map, int place) {
            return within(map, 0, size - 1) && within(place, 0, places[map] - 1);
        }

        int told(int map, int place, int i) {
            int n = map * MOST_PLACES + place;
            if (i < 0) {
                return taken[n] ? 1 : 0;
            }
            if (i < keyBytes[map]) {
                return keys[n * MOST_KEY_BYTES + i] & 255;
            }
            return values[n * MOST_VALUE_BYTES + i - keyBytes[map]] & 255;
        }

        /** The PLACE (its number in the rows) with the key that is sought, or -1. */
        int found(int map) {
            int first = map * MOST_PLACES;
            for (int n = first; n < first + places[map]; n++) {
                if (taken[n] && hasSought(n, keyBytes[map])) {
                    return n;
                }
            }
            return -1;
        }

        private boolean hasSought(int n, int bytes) {
            for (int b = 0; b < bytes; b++) {
                if (keys[n * MOST_KEY_BYTES + b] != sought[b]) {
                    return false;
                }
            }
            return true;
        }

        /** The first empty PLACE, which then has the key that is sought, or -1. */
        int takenUp(int map) {
            int first = map * MOST_PLACES;
            for (int n = first; n < first + places[map]; n++) {
                if (!taken[n]) {
                    taken[n] = true;
                    System.arraycopy(sought, 0, keys, n * MOST_KEY_BYTES, keyBytes[map]);
                    return n;
                }
            }
            return -1;
        }

        void empty(int n) {
            taken[n] = false;
        }

        /** Whether byte i of the values' row belongs to a PLACE of a MAP. */
        boolean hasValueByte(int i) {
            int n = i / MOST_VALUE_BYTES;
            int map = n / MOST_PLACES;
            return map < size && n % MOST_PLACES < places[map] && i % MOST_VALUE_BYTES < valueBytes[map];
        }
    }

    /** What the INSTRUCTIONS do with longs: the CHECKING of CONSTS and the runs share it. */
    private static final class Arithmetic {
        static long outcome(int sort, long dst, long b) {
            boolean narrow = (sort & NARROW) != 0;
            long x = narrow ? dst & LOW_32 : dst;
            long y = narrow ? b & LOW_32 : b;
            long z = whole(sort, x, y);
            return narrow ? z & LOW_32 : z;
        }

        private static long whole(int sort, long x, long y) {
            switch (sort & OPERATION) {
                case MOVE: return y;
                case ADD: return x + y;
                case SUB: return x - y;
                case MUL: return x * y;
                case DIV: return quotient(x, y);
                case MOD: return x - quotient(x, y) * y;
                case AND: return x & y;
                case OR: return x | y;
                case XOR: return x ^ y;
                case LEFT: return x << shift(sort, y);
                case RIGHT: return x >>> shift(sort, y);
                case SIGNED_RIGHT: return ((sort & NARROW) != 0 ? (int) x : x) >> shift(sort, y);
                default: return -x;
            }
        }

        /** How far a shift by b goes. */
        static int shift(int sort, long b) {
            return (int) b & ((sort & NARROW) != 0 ? 31 : 63);
        }

        /** x / y without sign; 0 if y is 0, so that MOD by 0 leaves x. */
        private static long quotient(long x, long y) {
            if (y <= 0) {
                return y == 0 || x + LEAST < y + LEAST ? 0 : 1;
            }
            if (x >= 0) {
                return x / y;
            }
            long half = ((x >>> 1) / y) << 1;
            long rest = x - half * y;
            return rest >= 0 && rest < y ? half : half + 1;
        }

        static boolean below(long x, long y) {
            return x + LEAST < y + LEAST;
        }

        static boolean holds(int relation, long x, long y) {
            switch (relation) {
                case EQUAL: return x == y;
                case UNEQUAL: return x != y;
                case BELOW: return below(x, y);
                case BELOW + 1: return !below(y, x);
                case BELOW + 2: return below(y, x);
                case BELOW + 3: return !below(x, y);
                case SIGNED_BELOW: return x < y;
                case SIGNED_BELOW + 1: return x <= y;
                case SIGNED_BELOW + 2: return x > y;
                case SIGNED_BELOW + 3: return x >= y;
                default: return (x & y) != 0;
            }
        }
    }

    /** low .. high, with sign; without numbers if low is above high. */
    private static final class Range {
        long low;
        long high;

        void set(long newLow, long newHigh) {
            low = newLow;
            high = newHigh;
        }

        void setAll() {
            low = LEAST;
            high = GREATEST;
        }

        boolean isConst() {
            return low == high;
        }

        boolean isEmpty() {
            return low > high;
        }

        void cutTo32Bits() {
            if (isConst()) {
                set(low & LOW_32, low & LOW_32);
            } else if (low < 0 || high > LOW_32) {
                set(0, LOW_32);
            }
        }

        void meet(Range other) {
            low = Math.max(low, other.low);
            high = Math.min(high, other.high);
        }

        /** Leaves what is below the bound, or (not strict) not above it. */
        void capAt(long bound, boolean strict) {
            if (strict && bound == LEAST) {
                set(1, 0);
            } else {
                high = Math.min(high, strict ? bound - 1 : bound);
            }
        }

        /** Leaves what is above the bound, or (not strict) not below it. */
        void raiseTo(long bound, boolean strict) {
            if (strict && bound == GREATEST) {
                set(1, 0);
            } else {
                low = Math.max(low, strict ? bound + 1 : bound);
            }
        }

        /** Takes a number away if it is an end of this RANGE, which is no CONST. */
        void dropEnd(long number) {
            if (low == number) {
                low++;
            } else if (high == number) {
                high--;
            }
        }
    }

    /** What's KNOWN of NUMBERS behind an operation, or on a condition's side. */
    private static final class Ranges {
        /** Puts the outcome of x and y into z; x and y may be changed. */
        static void operate(int sort, Range x, Range y, Range z) {
            boolean narrow = (sort & NARROW) != 0;
            int operation = sort & OPERATION;
            if (narrow) {
                x.cutTo32Bits();
                y.cutTo32Bits();
            }
            if (operation == NEG) {
                y.set(x.low, x.high);
                x.set(0, 0);
                operation = SUB;
            }
            if (x.isConst() && y.isConst()) {
                long only = Arithmetic.outcome(operation | (sort & NARROW), x.low, y.low);
                z.set(only, only);
            } else if (narrow && operation == SIGNED_RIGHT) {
                z.set(0, LOW_32);
            } else {
                estimate(operation, Arithmetic.shift(sort, y.low), x, y, z);
            }
            if (narrow) {
                z.cutTo32Bits();
            }
        }

        /** What's KNOWN if x or y is no CONST; by is how far a shift goes if y is one. */
        private static void estimate(int operation, int by, Range x, Range y, Range z) {
            switch (operation) {
                case MOVE: z.set(y.low, y.high); break;
                case ADD:
                case SUB:
                case MUL: spanEnds(operation, x, y, z); break;
                case DIV: divide(x, y, z); break;
                case MOD: remain(x, y, z); break;
                case AND: both(x, y, z); break;
                case OR: either(x, y, Math.max(x.low, y.low), z); break;
                case XOR: either(x, y, 0, z); break;
                default:
                    if (y.isConst()) {
                        shift(operation, by, x, z);
                    } else {
                        shiftUnknown(operation, x, z);
                    }
                    break;
            }
        }

        /** The least and the greatest outcome of ADD, SUB or MUL of ends. */
        static void spanEnds(int operation, Range x, Range y, Range z) {
            long least = GREATEST;
            long greatest = LEAST;
            for (int pair = 0; pair < 4; pair++) {
                long a = pair < 2 ? x.low : x.high;
                long b = (pair & 1) == 0 ? y.low : y.high;
                if (!fits(operation, a, b)) {
                    z.setAll();
                    return;
                }
                long c = operation == ADD ? a + b : operation == SUB ? a - b : a * b;
                least = Math.min(least, c);
                greatest = Math.max(greatest, c);
            }
            z.set(least, greatest);
        }

        private static boolean fits(int operation, long a, long b) {
            if (operation == ADD) {
                long sum = a + b;
                return ((a ^ sum) & (b ^ sum)) >= 0;
            }
            if (operation == SUB) {
                return ((a ^ b) & (a ^ (a - b))) >= 0;
            }
            if (a == 0) {
                return true;
            }
            // LEAST / -1 wraps, so the way back alone would not show it.
            return !(a == -1 && b == LEAST) && a * b / a == b;
        }

        private static void divide(Range x, Range y, Range z) {
            if (x.low < 0 || y.low < 0) {
                z.setAll();
            } else if (y.low > 0) {
                z.set(x.low / y.high, x.high / y.low);
            } else {
                z.set(0, x.high);
            }
        }

        private static void remain(Range x, Range y, Range z) {
            if (x.low < 0 || y.low < 0) {
                z.setAll();
            } else if (y.low > 0) {
                z.set(0, Math.min(x.high, y.high - 1));
            } else {
                z.set(0, x.high);
            }
        }

        private static void both(Range x, Range y, Range z) {
            if (x.low >= 0 && y.low >= 0) {
                z.set(0, Math.min(x.high, y.high));
            } else if (x.low >= 0) {
                z.set(0, x.high);
            } else if (y.low >= 0) {
                z.set(0, y.high);
            } else {
                z.setAll();
            }
        }

        private static void either(Range x, Range y, long least, Range z) {
            if (x.low < 0 || y.low < 0) {
                z.setAll();
                return;
            }
            long top = Math.max(x.high, y.high);
            for (int by = 1; by < 64; by <<= 1) {
                top |= top >> by;
            }
            z.set(least, top);
        }

        private static void shift(int operation, int by, Range x, Range z) {
            if (operation == LEFT) {
                if (x.low >= 0 && x.high << by >> by == x.high) {
                    z.set(x.low << by, x.high << by);
                } else {
                    z.setAll();
                }
            } else if (operation == SIGNED_RIGHT || x.low >= 0 || by == 0) {
                z.set(x.low >> by, x.high >> by);
            } else {
                z.set(0, -1L >>> by);
            }
        }

        private static void shiftUnknown(int operation, Range x, Range z) {
            if (operation != LEFT && x.low >= 0) {
                z.set(0, x.high);
            } else {
                z.setAll();
            }
        }

        /** Leaves in x and y what can be where the relation holds, or doesn't. They aren't both CONSTS. */
        static void confine(int relation, boolean truth, Range x, Range y) {
            if (relation == ANY_BIT) {
                return;
            }
            if (relation == EQUAL || relation == UNEQUAL) {
                if ((relation == EQUAL) == truth) {
                    x.meet(y);
                    y.set(x.low, x.high);
                } else if (x.isConst()) {
                    y.dropEnd(x.low);
                } else if (y.isConst()) {
                    x.dropEnd(y.low);
                }
                return;
            }
            int order = Sorts.order(relation, truth);
            boolean strict = order % 2 == 0;
            Range lesser = order < 2 ? x : y;
            Range greater = order < 2 ? y : x;
            if (relation >= SIGNED_BELOW || (x.low >= 0 && y.low >= 0)) {
                long least = lesser.low;
                lesser.capAt(greater.high, strict);
                greater.raiseTo(least, strict);
            } else if (greater.low >= 0) {
                lesser.raiseTo(0, false);
                lesser.capAt(greater.high, strict);
            }
        }
    }

    /**
     * What's KNOWN at a point of a WAY. Entries 0 .. 10 are the registers; the others are the
     * STACK's eights, each what it HOLDS, or NONE where its bytes are told of one by one.
     */
    private static final class State {
        final int[] kind = new int[ENTRIES];
        final int[] map = new int[ENTRIES];
        final int[] tag = new int[ENTRIES];
        final long[] low = new long[ENTRIES];
        final long[] high = new long[ENTRIES];
        /** A bit for each byte that is DATA, of each of the STACK's eights that HOLDS nothing. */
        final int[] data = new int[EIGHTS];
        int length;
        int at;

        void begin() {
            for (int e = 0; e < ENTRIES; e++) {
                set(e, NONE, 0, 0, 0);
            }
            Arrays.fill(data, 0);
            set(1, PACKET, 0, 0, 0);
            set(2, END, 0, 0, 0);
            set(STACK_REGISTER, STACK, 0, 0, 0);
            length = 0;
            at = 0;
        }

        void copyFrom(State other) {
            System.arraycopy(other.kind, 0, kind, 0, ENTRIES);
            System.arraycopy(other.map, 0, map, 0, ENTRIES);
            System.arraycopy(other.tag, 0, tag, 0, ENTRIES);
            System.arraycopy(other.low, 0, low, 0, ENTRIES);
            System.arraycopy(other.high, 0, high, 0, ENTRIES);
            System.arraycopy(other.data, 0, data, 0, EIGHTS);
            length = other.length;
            at = other.at;
        }

        void set(int entry, int newKind, int newMap, long newLow, long newHigh) {
            kind[entry] = newKind;
            map[entry] = newMap;
            tag[entry] = 0;
            low[entry] = newLow;
            high[entry] = newHigh;
        }

        void setNumber(int entry, long newLow, long newHigh) {
            set(entry, NUMBER, 0, newLow, newHigh);
        }

        void copyEntry(int to, int from) {
            // An entry may be copied to itself, and to set it takes its tag away.
            int kept = tag[from];
            set(to, kind[from], map[from], low[from], high[from]);
            tag[to] = kept;
        }

        boolean isNone(int entry) {
            return kind[entry] == NONE;
        }

        boolean isNumber(int entry) {
            return kind[entry] == NUMBER;
        }

        boolean isPointer(int entry) {
            return kind[entry] != NONE && kind[entry] != NUMBER;
        }

        /** Makes all MAYBES of a tag what they have turned out to be. */
        void settle(int settled, boolean there) {
            for (int e = 0; e < ENTRIES; e++) {
                if (kind[e] == MAYBE && tag[e] == settled) {
                    set(e, there ? VALUE : NUMBER, there ? map[e] : 0, 0, 0);
                }
            }
        }

        /** The entry of the eight bytes from STACK + c. */
        static int eightAt(long c) {
            return REGISTERS + (int) ((c + STACK_BYTES) >> 3);
        }

        /** Whether the STACK's bytes can be read one by one: no pointer's, and none that's NONE. */
        boolean readable(long from, int bytes) {
            for (long c = from; c < from + bytes; c++) {
                int e = eightAt(c);
                if (isPointer(e) || (isNone(e) && (data[e - REGISTERS] >> (c & 7) & 1) == 0)) {
                    return false;
                }
            }
            return true;
        }

        /** Makes the STACK's bytes DATA, each for itself. */
        void scatter(long from, int bytes) {
            for (long c = from; c < from + bytes; c++) {
                int e = eightAt(c);
                if (!isNone(e)) {
                    data[e - REGISTERS] = isNumber(e) ? 255 : 0;
                    set(e, NONE, 0, 0, 0);
                }
                data[e - REGISTERS] |= 1 << (c & 7);
            }
        }
    }

    /** How often each INSTRUCTION was gone, and what its registers were. */
    private static final class Foretold {
        private final int[] gone = new int[MOST_INSTRUCTIONS];
        private final boolean[] number = new boolean[MOST_INSTRUCTIONS * REGISTERS];
        private final long[] low = new long[MOST_INSTRUCTIONS * REGISTERS];
        private final long[] high = new long[MOST_INSTRUCTIONS * REGISTERS];

        void forget(int instructions) {
            for (int i = 0; i < instructions; i++) {
                gone[i] = 0;
            }
            for (int n = 0; n < instructions * REGISTERS; n++) {
                number[n] = false;
                low[n] = 0;
                high[n] = 0;
            }
        }

        void meet(int i, State state) {
            gone[i]++;
            for (int r = 0; r < REGISTERS; r++) {
                if (state.isNumber(r)) {
                    widen(i * REGISTERS + r, state.low[r], state.high[r]);
                }
            }
        }

        private void widen(int n, long newLow, long newHigh) {
            low[n] = number[n] ? Math.min(low[n], newLow) : newLow;
            high[n] = number[n] ? Math.max(high[n], newHigh) : newHigh;
            number[n] = true;
        }

        boolean allows(int i, int r, long value) {
            int n = i * REGISTERS + r;
            return number[n] && value >= low[n] && value <= high[n];
        }

        long told(int i, int r, int what) {
            if (what == 3) {
                return gone[i];
            }
            int n = i * REGISTERS + r;
            return what == 0 ? low[n] : what == 1 ? high[n] : number[n] ? 1 : 0;
        }
    }

    /** CHECKING: goes every WAY through the PROGRAM, up to the first FAULT. */
    private static final class Checker {
        private final Program program;
        private final Maps maps;
        private final Foretold foretold;
        private final State now = new State();
        /** The other side of the condition that is looked at. */
        private final State other = new State();
        private final State[] waiting = new State[MOST_WAITING];
        private final Range x = new Range();
        private final Range y = new Range();
        private final Range z = new Range();
        private int waits;
        private int tags;
        int gone;
        int fault;
        int faultAt;

        Checker(Program program, Maps maps, Foretold foretold) {
            this.program = program;
            this.maps = maps;
            this.foretold = foretold;
            for (int w = 0; w < MOST_WAITING; w++) {
                waiting[w] = new State();
            }
            faultAt = -1;
        }

        void forget() {
            gone = 0;
            fault = 0;
            faultAt = -1;
        }

        /** Answers the FAULT's number, 0 for none. */
        int examine() {
            forget();
            int outOfForm = program.firstOutOfForm(maps.size);
            if (outOfForm >= 0) {
                return fail(BAD_FORM, outOfForm);
            }
            foretold.forget(program.size);
            now.begin();
            waits = 0;
            tags = 0;
            for (int n = 0; n < MOST_GONE; n++) {
                int i = now.at;
                gone++;
                foretold.meet(i, now);
                int met = step(i);
                if (met != 0) {
                    return fail(met, i);
                }
                if (now.at == ENDED && !takeUpLatest()) {
                    return 0;
                }
            }
            return fail(TOO_MUCH, now.at);
        }

        private int fail(int number, int i) {
            fault = number;
            faultAt = i;
            return number;
        }

        private boolean takeUpLatest() {
            if (waits == 0) {
                return false;
            }
            waits--;
            now.copyFrom(waiting[waits]);
            return true;
        }

        /** Goes one INSTRUCTION: answers its FAULT, or 0 when what's KNOWN is as behind it. */
        private int step(int i) {
            int sort = program.sort[i];
            if (sort == EXIT) {
                now.at = ENDED;
                return now.isNone(0) ? UNKNOWN_REGISTER : now.isPointer(0) ? MISPLACED_POINTER : 0;
            }
            if (sort == GO) {
                now.at = program.target(i);
                return 0;
            }
            if (Sorts.isCondition(sort)) {
                int met = conditionFault(i);
                return met != 0 ? met : part(i);
            }
            int met = 0;
            if (Sorts.isArithmetic(sort)) {
                met = operate(i);
            } else if (sort == CALL) {
                met = call(program.imm[i]);
            } else if (sort == NAME_MAP) {
                now.set(program.dst[i], MAP, program.imm[i], 0, 0);
            } else {
                met = sort < STORE ? load(i) : store(i);
            }
            now.at = i + 1;
            return met == 0 && i + 1 >= program.size ? RUNS_OFF : met;
        }

        /** Puts the RANGE of B into y. */
        private void lookAtB(State state, int i) {
            if (program.namesSource(i)) {
                y.set(state.low[program.src[i]], state.high[program.src[i]]);
            } else {
                y.set(program.imm[i], program.imm[i]);
            }
        }

        private boolean sourceIsNone(int i) {
            return program.namesSource(i) && now.isNone(program.src[i]);
        }

        private boolean sourceIsPointer(int i) {
            return program.namesSource(i) && now.isPointer(program.src[i]);
        }

        private int operate(int i) {
            int sort = program.sort[i];
            int dst = program.dst[i];
            boolean usesDst = (sort & OPERATION) != MOVE;
            if (sourceIsNone(i) || (usesDst && now.isNone(dst))) {
                return UNKNOWN_REGISTER;
            }
            if (sort == MOVE) {
                now.copyEntry(dst, program.src[i]);
                return 0;
            }
            if (sourceIsPointer(i) || (usesDst && now.isPointer(dst))) {
                return movePointer(i);
            }
            x.set(usesDst ? now.low[dst] : 0, usesDst ? now.high[dst] : 0);
            lookAtB(now, i);
            Ranges.operate(sort, x, y, z);
            now.setNumber(dst, z.low, z.high);
            return 0;
        }

        /** ADD and SUB where dst or src is a pointer; no other SORT may meet one. */
        private int movePointer(int i) {
            int sort = program.sort[i];
            int dst = program.dst[i];
            int operation = sort & OPERATION;
            boolean first = now.isPointer(dst);
            boolean second = sourceIsPointer(i);
            boolean fitting = operation == ADD ? first != second : operation == SUB && !second;
            if (!fitting || (sort & NARROW) != 0) {
                return MISPLACED_POINTER;
            }
            int pointer = first ? dst : program.src[i];
            int kind = now.kind[pointer];
            if (kind != STACK && kind != PACKET && kind != VALUE) {
                return MISPLACED_POINTER;
            }
            x.set(now.low[dst], now.high[dst]);
            lookAtB(now, i);
            if (kind == STACK && !(x.isConst() && y.isConst())) {
                return MISPLACED_POINTER;
            }
            Ranges.spanEnds(operation, x, y, z);
            if (z.low < -FARTHEST || z.high > FARTHEST) {
                return MISPLACED_POINTER;
            }
            now.set(dst, kind, now.map[pointer], z.low, z.high);
            return 0;
        }

        /** The FAULT of bytes at a register + off that aren't KNOWN to be there, or 0. */
        private int accessFault(int base, int off, int bytes) {
            long from = now.low[base] + off;
            long behind = now.high[base] + off + bytes;
            switch (now.kind[base]) {
                case STACK: return from < -STACK_BYTES || behind > 0 ? NO_MEMORY : 0;
                case PACKET: return from < 0 || behind > now.length ? NO_MEMORY : 0;
                case VALUE: return from < 0 || behind > maps.valueBytes[now.map[base]] ? NO_MEMORY : 0;
                default: return MISPLACED_POINTER;
            }
        }

        private static boolean isWholeEight(long from, int bytes) {
            return bytes == 8 && (from & 7) == 0;
        }

        private int load(int i) {
            int base = program.src[i];
            int dst = program.dst[i];
            int bytes = Sorts.bytes(program.sort[i]);
            if (now.isNone(base)) {
                return UNKNOWN_REGISTER;
            }
            int met = accessFault(base, program.off[i], bytes);
            if (met != 0) {
                return met;
            }
            if (now.kind[base] == STACK) {
                long from = now.low[base] + program.off[i];
                if (isWholeEight(from, bytes) && !now.isNone(State.eightAt(from))) {
                    now.copyEntry(dst, State.eightAt(from));
                    return 0;
                }
                if (!now.readable(from, bytes)) {
                    return UNREADABLE;
                }
            }
            if (bytes == 8) {
                now.setNumber(dst, LEAST, GREATEST);
            } else {
                now.setNumber(dst, 0, (1L << 8 * bytes) - 1);
            }
            return 0;
        }

        private int store(int i) {
            int base = program.dst[i];
            int bytes = Sorts.bytes(program.sort[i]);
            if (now.isNone(base) || sourceIsNone(i)) {
                return UNKNOWN_REGISTER;
            }
            long from = now.low[base] + program.off[i];
            boolean onStack = now.kind[base] == STACK;
            if (sourceIsPointer(i) && !(onStack && isWholeEight(from, bytes))) {
                return MISPLACED_POINTER;
            }
            int met = accessFault(base, program.off[i], bytes);
            if (met != 0 || !onStack) {
                return met;
            }
            if (!isWholeEight(from, bytes)) {
                now.scatter(from, bytes);
            } else if (program.namesSource(i)) {
                now.copyEntry(State.eightAt(from), program.src[i]);
            } else {
                now.setNumber(State.eightAt(from), program.imm[i], program.imm[i]);
            }
            return 0;
        }

        private int call(int number) {
            int met = callFault(number);
            if (met != 0) {
                return met;
            }
            int map = now.map[1];
            for (int r = 1; r <= 5; r++) {
                now.set(r, NONE, 0, 0, 0);
            }
            if (number == LOOK) {
                tags++;
                now.set(0, MAYBE, map, 0, 0);
                now.tag[0] = tags;
            } else if (number == NOTE) {
                now.setNumber(0, 0, 0);
            } else {
                now.setNumber(0, 0, number == CHANCE ? LOW_32 : 1);
            }
            return 0;
        }

        private int callFault(int number) {
            if (number == CHANCE) {
                return 0;
            }
            int used = number == NOTE ? 1 : number == PUT ? 3 : 2;
            for (int r = 1; r <= used; r++) {
                if (now.isNone(r)) {
                    return UNKNOWN_REGISTER;
                }
            }
            if (number == NOTE) {
                return now.isNumber(1) ? 0 : BAD_CALL;
            }
            if (now.kind[1] != MAP) {
                return BAD_CALL;
            }
            int map = now.map[1];
            int ofKey = bytesFault(2, maps.keyBytes[map]);
            int ofValue = number == PUT ? bytesFault(3, maps.valueBytes[map]) : 0;
            if (ofKey == 0 || ofValue == 0) {
                return ofKey + ofValue;
            }
            return Math.min(ofKey, ofValue);
        }

        /** The FAULT of a key or value that a CALL would read where a register points, or 0. */
        private int bytesFault(int register, int bytes) {
            if (now.kind[register] != STACK) {
                return BAD_CALL;
            }
            int met = accessFault(register, 0, bytes);
            if (met != 0) {
                return met;
            }
            return now.readable(now.low[register], bytes) ? 0 : UNREADABLE;
        }

        private int conditionFault(int i) {
            int dst = program.dst[i];
            if (now.isNone(dst) || sourceIsNone(i)) {
                return UNKNOWN_REGISTER;
            }
            if (now.isNumber(dst) && !sourceIsPointer(i)) {
                return 0;
            }
            return asksForMaybe(i) || asksForLength(i) ? 0 : MISPLACED_POINTER;
        }

        private boolean asksForMaybe(int i) {
            int relation = Sorts.relation(program.sort[i]);
            return now.kind[program.dst[i]] == MAYBE && !program.namesSource(i) && program.imm[i] == 0
                && (relation == EQUAL || relation == UNEQUAL);
        }

        private boolean asksForLength(int i) {
            if (!within(program.sort[i], BELOW, SIGNED_BELOW - 1)) {
                return false;
            }
            int dst = now.kind[program.dst[i]];
            int src = now.kind[program.src[i]];
            return (dst == PACKET && src == END) || (dst == END && src == PACKET);
        }

        /** Parts at a condition; one that leads behind the last INSTRUCTION is refused first. */
        private int part(int i) {
            other.copyFrom(now);
            boolean next = takeSide(now, i, false);
            if (next && i + 1 >= program.size) {
                return RUNS_OFF;
            }
            boolean jump = takeSide(other, i, true);
            now.at = next ? i + 1 : ENDED;
            other.at = program.target(i);
            if (jump && !next) {
                now.copyFrom(other);
            } else if (jump) {
                if (waits >= MOST_WAITING) {
                    return TOO_MUCH;
                }
                waiting[waits].copyFrom(other);
                waits++;
            }
            return 0;
        }

        /** Puts into the state what a side of a condition tells; answers whether that side can be. */
        private boolean takeSide(State state, int i, boolean truth) {
            int relation = Sorts.relation(program.sort[i]);
            int dst = program.dst[i];
            if (state.kind[dst] == MAYBE) {
                state.settle(state.tag[dst], (relation == UNEQUAL) == truth);
                return true;
            }
            if (state.isPointer(dst)) {
                learnLength(state, i, Sorts.order(relation, truth));
                return true;
            }
            x.set(state.low[dst], state.high[dst]);
            lookAtB(state, i);
            if (x.isConst() && y.isConst()) {
                return Arithmetic.holds(relation, x.low, y.low) == truth;
            }
            Ranges.confine(relation, truth, x, y);
            if (x.isEmpty() || y.isEmpty()) {
                return false;
            }
            if (program.namesSource(i)) {
                int src = program.src[i];
                if (src == dst) {
                    x.meet(y);
                }
                state.setNumber(src, y.low, y.high);
            }
            state.setNumber(dst, x.low, x.high);
            return !x.isEmpty();
        }

        private void learnLength(State state, int i, int order) {
            boolean packetFirst = state.kind[program.dst[i]] == PACKET;
            if (packetFirst == order < 2) {
                long low = state.low[packetFirst ? program.dst[i] : program.src[i]];
                long length = order % 2 == 0 ? low + 1 : low;
                state.length = (int) Math.max(state.length, length);
            }
        }
    }

    /** The memory of a run, by address: the STACK, the PACKET, and the values in the MAPS. */
    private static final class Memory {
        final Maps maps;
        final byte[] packet = new byte[PACKET_BYTES];
        private final byte[] stack = new byte[STACK_BYTES];
        int packetLength;
        /** Reads and writes of what isn't there. */
        int strays;

        Memory(Maps maps) {
            this.maps = maps;
        }

        /** The four bytes of a number more for the PACKET, which has room for them. */
        void feedNumber(int number) {
            for (int shift = 24; shift >= 0; shift -= 8) {
                packet[packetLength] = (byte) (number >> shift);
                packetLength++;
            }
        }

        void begin() {
            Arrays.fill(stack, (byte) 0);
        }

        long read(long address, int bytes) {
            long number = 0;
            for (int b = bytes - 1; b >= 0; b--) {
                number = number << 8 | byteAt(address + b);
            }
            return number;
        }

        void write(long address, int bytes, long number) {
            for (int b = 0; b < bytes; b++) {
                setByte(address + b, (byte) (number >> 8 * b));
            }
        }

        int byteAt(long address) {
            int i = indexFrom(STACK_AT, STACK_BYTES, address);
            if (i >= 0) {
                return stack[i] & 255;
            }
            i = indexFrom(PACKET_AT, packetLength, address);
            if (i >= 0) {
                return packet[i] & 255;
            }
            i = indexFrom(VALUES_AT, maps.values.length, address);
            if (i >= 0 && maps.hasValueByte(i)) {
                return maps.values[i] & 255;
            }
            strays++;
            return 0;
        }

        private void setByte(long address, byte value) {
            int i = indexFrom(STACK_AT, STACK_BYTES, address);
            if (i >= 0) {
                stack[i] = value;
                return;
            }
            i = indexFrom(PACKET_AT, packetLength, address);
            if (i >= 0) {
                packet[i] = value;
                return;
            }
            i = indexFrom(VALUES_AT, maps.values.length, address);
            if (i >= 0 && maps.hasValueByte(i)) {
                maps.values[i] = value;
            } else {
                strays++;
            }
        }

        private static int indexFrom(long begin, int length, long address) {
            return address >= begin && address < begin + length ? (int) (address - begin) : -1;
        }

        /** The number of the STACK's eight that begins at the address, or -1. */
        static int eightAt(long address) {
            int i = indexFrom(STACK_AT, STACK_BYTES, address);
            return i >= 0 && i % 8 == 0 ? i / 8 : -1;
        }

        void seek(long address, int bytes) {
            for (int b = 0; b < bytes; b++) {
                maps.sought[b] = (byte) byteAt(address + b);
            }
        }

        static long valueAddress(int place) {
            return VALUES_AT + (long) place * MOST_VALUE_BYTES;
        }
    }

    /**
     * Runs of a PROGRAM that passed. Nothing is decided by the kinds kept here: they are there so
     * that a NUMBER outside of what's FORETOLD, or memory that isn't the PROGRAM's, is counted.
     */
    private static final class Runner {
        /** Kinds here are NONE, NUMBER, a pointer, and from FIRST_MAYBE on one for each LOOK. */
        private static final int POINTER = 2;
        private static final int FIRST_MAYBE = 3;

        private final Program program;
        private final Foretold foretold;
        private final Memory memory;
        private final long[] register = new long[REGISTERS];
        private final int[] kind = new int[ENTRIES];
        final long[] log = new long[MOST_LOGGED];
        int logged;
        int done;
        long chance;
        private int at;
        private int looks;
        private int unforetold;

        Runner(Program program, Foretold foretold, Memory memory) {
            this.program = program;
            this.foretold = foretold;
            this.memory = memory;
        }

        void forget() {
            logged = 0;
            done = 0;
            unforetold = 0;
            memory.strays = 0;
        }

        int strays() {
            return unforetold + memory.strays;
        }

        long outcome() {
            begin();
            for (int n = 0; n < MOST_GONE && within(at, 0, program.size - 1); n++) {
                done++;
                witness(at);
                if (program.sort[at] == EXIT) {
                    return register[0];
                }
                step(at);
            }
            return register[0];
        }

        private void begin() {
            memory.begin();
            Arrays.fill(register, 0);
            Arrays.fill(kind, NONE);
            register[1] = PACKET_AT;
            register[2] = PACKET_AT + memory.packetLength;
            register[STACK_REGISTER] = STACK_AT + STACK_BYTES;
            kind[1] = POINTER;
            kind[2] = POINTER;
            kind[STACK_REGISTER] = POINTER;
            logged = 0;
            done = 0;
            looks = 0;
            at = 0;
        }

        private void witness(int i) {
            for (int r = 0; r < REGISTERS; r++) {
                if (kind[r] == NUMBER && !foretold.allows(i, r, register[r])) {
                    unforetold++;
                }
            }
        }

        private void step(int i) {
            int sort = program.sort[i];
            at = i + 1;
            if (Sorts.isArithmetic(sort)) {
                operate(i);
            } else if (sort == GO) {
                at = program.target(i);
            } else if (Sorts.isCondition(sort)) {
                decide(i);
            } else if (sort == CALL) {
                call(program.imm[i]);
            } else if (sort == NAME_MAP) {
                set(program.dst[i], program.imm[i], POINTER);
            } else if (sort < STORE) {
                load(i);
            } else {
                store(i);
            }
        }

        private void set(int r, long value, int newKind) {
            register[r] = value;
            kind[r] = newKind;
        }

        private long b(int i) {
            return program.namesSource(i) ? register[program.src[i]] : program.imm[i];
        }

        private int kindOfB(int i) {
            return program.namesSource(i) ? kind[program.src[i]] : NUMBER;
        }

        private void operate(int i) {
            int sort = program.sort[i];
            int dst = program.dst[i];
            int newKind = NUMBER;
            if (sort == MOVE) {
                newKind = kindOfB(i);
            } else if ((sort & OPERATION) != MOVE && (kind[dst] == POINTER || kindOfB(i) == POINTER)) {
                newKind = POINTER;
            }
            set(dst, Arithmetic.outcome(sort, register[dst], b(i)), newKind);
        }

        private void decide(int i) {
            int dst = program.dst[i];
            if (kind[dst] >= FIRST_MAYBE) {
                settle(kind[dst], register[dst] == 0 ? NUMBER : POINTER);
            }
            if (Arithmetic.holds(Sorts.relation(program.sort[i]), register[dst], b(i))) {
                at = program.target(i);
            }
        }

        private void settle(int maybe, int newKind) {
            for (int e = 0; e < ENTRIES; e++) {
                if (kind[e] == maybe) {
                    kind[e] = newKind;
                }
            }
        }

        private void load(int i) {
            int bytes = Sorts.bytes(program.sort[i]);
            long address = register[program.src[i]] + program.off[i];
            int eight = bytes == 8 ? Memory.eightAt(address) : -1;
            boolean held = eight >= 0 && kind[REGISTERS + eight] != NONE;
            set(program.dst[i], memory.read(address, bytes), held ? kind[REGISTERS + eight] : NUMBER);
        }

        private void store(int i) {
            int bytes = Sorts.bytes(program.sort[i]);
            long address = register[program.dst[i]] + program.off[i];
            memory.write(address, bytes, b(i));
            if (bytes == 8 && Memory.eightAt(address) >= 0) {
                kind[REGISTERS + Memory.eightAt(address)] = kindOfB(i);
                return;
            }
            for (int b = 0; b < bytes; b++) {
                int eight = Memory.eightAt((address + b) & -8L);
                if (eight >= 0) {
                    kind[REGISTERS + eight] = NONE;
                }
            }
        }

        private void call(int number) {
            long outcome = 0;
            int newKind = NUMBER;
            int place = number <= TAKE ? foundPlace() : -1;
            switch (number) {
                case LOOK:
                    outcome = place < 0 ? 0 : Memory.valueAddress(place);
                    newKind = FIRST_MAYBE + looks;
                    looks++;
                    break;
                case PUT: outcome = put(place); break;
                case TAKE: outcome = take(place); break;
                case NOTE: note(register[1]); break;
                default:
                    chance = chance * 6364136223846793005L + 1442695040888963407L;
                    outcome = chance >>> 32;
                    break;
            }
            for (int r = 1; r <= 5; r++) {
                set(r, 0, NONE);
            }
            set(0, outcome, newKind);
        }

        /** The PLACE of the MAP in register 1 with the key at 2, or -1; that key is sought then. */
        private int foundPlace() {
            int map = (int) register[1];
            if (!within(map, 0, memory.maps.size - 1)) {
                return -1;
            }
            memory.seek(register[2], memory.maps.keyBytes[map]);
            return memory.maps.found(map);
        }

        private long put(int found) {
            int map = (int) register[1];
            if (!within(map, 0, memory.maps.size - 1)) {
                return 1;
            }
            int place = found >= 0 ? found : memory.maps.takenUp(map);
            if (place < 0) {
                return 1;
            }
            for (int b = 0; b < memory.maps.valueBytes[map]; b++) {
                memory.maps.values[place * MOST_VALUE_BYTES + b] = (byte) memory.byteAt(register[3] + b);
            }
            return 0;
        }

        private long take(int found) {
            if (found < 0) {
                return 1;
            }
            memory.maps.empty(found);
            return 0;
        }

        private void note(long number) {
            if (logged < MOST_LOGGED) {
                log[logged] = number;
                logged++;
            }
        }
    }
}

import java.math.BigInteger;
import java.util.ArrayDeque;
import java.util.Arrays;
import java.util.Deque;

/**
 * A second telling of CHECKING, for the tests: objects that never change, numbers without a limit,
 * and a STACK of 64 single bytes, eight of which may be parts of one thing that's HELD.
 */
final class Oracle {
    enum Kind { NUMBER, STACK, PACKET, END, VALUE, MAYBE, MAP }

    /** What's KNOWN of a register; null is NONE. */
    record Known(Kind kind, int map, int tag, BigInteger low, BigInteger high) {
        static Known number(long low, long high) {
            return new Known(Kind.NUMBER, 0, 0, big(low), big(high));
        }

        static Known pointer(Kind kind, int map, int tag) {
            return new Known(kind, map, tag, BigInteger.ZERO, BigInteger.ZERO);
        }

        boolean isNumber() {
            return kind == Kind.NUMBER;
        }

        boolean isConst() {
            return low.equals(high);
        }

        long[] ends() {
            return new long[] {low.longValueExact(), high.longValueExact()};
        }
    }

    /** The bytes of an eight that HOLDS something are all this one object. */
    static final class Held {
        final Known known;

        Held(Known known) {
            this.known = known;
        }
    }

    /** A byte of the STACK is null (NONE), DATA, or a Held. */
    private static final Object DATA = new Object();

    static final class Way {
        Known[] registers = new Known[11];
        Object[] stack = new Object[64];
        BigInteger length = BigInteger.ZERO;
        int at;

        Way copy() {
            Way way = new Way();
            way.registers = registers.clone();
            way.stack = stack.clone();
            way.length = length;
            way.at = at;
            return way;
        }

        void settle(int tag, Known as) {
            for (int r = 0; r < 11; r++) {
                registers[r] = settled(registers[r], tag, as);
            }
            for (int eight = 0; eight < 64; eight += 8) {
                if (stack[eight] instanceof Held held) {
                    Arrays.fill(stack, eight, eight + 8, new Held(settled(held.known, tag, as)));
                }
            }
        }

        private static Known settled(Known known, int tag, Known as) {
            return known != null && known.kind == Kind.MAYBE && known.tag == tag ? as : known;
        }
    }

    /** A FAULT ends the CHECKING. */
    static final class Fault extends Exception {
        final int number;

        Fault(int number) {
            this.number = number;
        }
    }

    private final Asked.Row row;
    private final Deque<Way> waiting = new ArrayDeque<>();
    private Way way = new Way();
    private int tags;
    int fault;
    int faultAt = -1;
    int gone;
    /** For each instruction how often it was gone; for each register low, high, 1 for a NUMBER. */
    final int[] often;
    final long[][][] foretold;

    Oracle(Asked.Row row) {
        this.row = row;
        often = new int[row.size()];
        foretold = new long[row.size()][11][3];
    }

    private static BigInteger big(long number) {
        return BigInteger.valueOf(number);
    }

    int check() {
        for (int i = 0; i < row.size(); i++) {
            if (!FormTest.inForm(row, i)) {
                return ends(1, i);
            }
        }
        way.registers[1] = Known.pointer(Kind.PACKET, 0, 0);
        way.registers[2] = Known.pointer(Kind.END, 0, 0);
        way.registers[10] = Known.pointer(Kind.STACK, 0, 0);
        while (way != null) {
            int i = way.at;
            if (gone == 10000) {
                return ends(8, i);
            }
            gone++;
            foretell(i);
            try {
                go(i, row.steps.get(i));
            } catch (Fault met) {
                return ends(met.number, i);
            }
        }
        return 0;
    }

    private int ends(int number, int at) {
        fault = number;
        faultAt = at;
        return number;
    }

    private void foretell(int i) {
        often[i]++;
        for (int r = 0; r < 11; r++) {
            Known known = way.registers[r];
            if (known != null && known.isNumber()) {
                long[] ends = known.ends();
                long[] told = foretold[i][r];
                told[0] = told[2] == 1 ? Math.min(told[0], ends[0]) : ends[0];
                told[1] = told[2] == 1 ? Math.max(told[1], ends[1]) : ends[1];
                told[2] = 1;
            }
        }
    }

    private void go(int i, int[] s) throws Fault {
        int sort = s[0];
        if (sort == 113) {
            number(0);
            way = waiting.poll();
        } else if (sort == 64) {
            way.at = i + 1 + s[3];
        } else if (sort >= 65 && sort <= 91) {
            part(i, s);
        } else {
            if (sort <= 60) {
                way.registers[s[1]] = operated(s);
            } else if (sort <= 99) {
                way.registers[s[1]] = loaded(s);
            } else if (sort <= 107) {
                store(s);
            } else if (sort == 112) {
                call(s[4]);
            } else {
                way.registers[s[1]] = Known.pointer(Kind.MAP, s[4], 0);
            }
            if (i + 1 == row.size()) {
                throw new Fault(7);
            }
            way.at = i + 1;
        }
    }

    private Known used(int r) throws Fault {
        if (way.registers[r] == null) {
            throw new Fault(2);
        }
        return way.registers[r];
    }

    private Known number(int r) throws Fault {
        Known known = used(r);
        if (!known.isNumber()) {
            throw new Fault(3);
        }
        return known;
    }

    private Known operated(int[] s) throws Fault {
        boolean withImm = (s[0] & 16) != 0;
        int operation = s[0] & 15;
        Known b = withImm || operation == 12 ? Known.number(s[4], s[4]) : used(s[2]);
        if (s[0] == 0) {
            return b;
        }
        Known a = operation == 0 ? Known.number(0, 0) : used(s[1]);
        if (a.isNumber() && b.isNumber()) {
            long[] z = NumbersTest.due(s[0], a.ends()[0], a.ends()[1], b.ends()[0], b.ends()[1]);
            return Known.number(z[0], z[1]);
        }
        boolean plus = s[0] == 1 || s[0] == 17;
        boolean minus = s[0] == 2 || s[0] == 18;
        Known pointer = a.isNumber() ? b : a;
        Known number = a.isNumber() ? a : b;
        if (!number.isNumber() || !plus && !(minus && pointer == a)) {
            throw new Fault(3);
        }
        boolean onStack = pointer.kind == Kind.STACK;
        if (!onStack && pointer.kind != Kind.PACKET && pointer.kind != Kind.VALUE || onStack && !number.isConst()) {
            throw new Fault(3);
        }
        BigInteger low = plus ? pointer.low.add(number.low) : pointer.low.subtract(number.high);
        BigInteger high = plus ? pointer.high.add(number.high) : pointer.high.subtract(number.low);
        if (low.compareTo(big(-4096)) < 0 || high.compareTo(big(4096)) > 0) {
            throw new Fault(3);
        }
        return new Known(pointer.kind, pointer.map, 0, low, high);
    }

    /** Where the bytes begin, if they're KNOWN to be there. */
    private long placed(Known base, int off, int bytes) throws Fault {
        if (base.kind != Kind.STACK && base.kind != Kind.PACKET && base.kind != Kind.VALUE) {
            throw new Fault(3);
        }
        BigInteger first = big(base.kind == Kind.STACK ? -64 : 0);
        BigInteger behind = base.kind == Kind.STACK ? BigInteger.ZERO
            : base.kind == Kind.PACKET ? way.length : big(row.maps.get(base.map)[1]);
        BigInteger from = base.low.add(big(off));
        if (from.compareTo(first) < 0 || base.high.add(big(off)).add(big(bytes)).compareTo(behind) > 0) {
            throw new Fault(4);
        }
        return from.longValueExact();
    }

    private void readOneByOne(int from, int bytes) throws Fault {
        for (int b = from; b < from + bytes; b++) {
            Object cell = way.stack[b];
            if (cell == null || cell instanceof Held held && !held.known.isNumber()) {
                throw new Fault(5);
            }
        }
    }

    private Known loaded(int[] s) throws Fault {
        int bytes = 1 << s[0] - 96;
        Known base = used(s[2]);
        int from = (int) placed(base, s[3], bytes) + 64;
        if (base.kind == Kind.STACK) {
            if (bytes == 8 && from % 8 == 0 && way.stack[from] instanceof Held held) {
                return held.known;
            }
            readOneByOne(from, bytes);
        }
        return bytes == 8 ? Known.number(Asked.LEAST, Asked.GREATEST) : Known.number(0, (1L << 8 * bytes) - 1);
    }

    private void store(int[] s) throws Fault {
        int bytes = 1 << (s[0] & 3);
        Known base = used(s[1]);
        Known what = s[0] >= 104 ? Known.number(s[4], s[4]) : used(s[2]);
        boolean onStack = base.kind == Kind.STACK;
        boolean whole = onStack && bytes == 8 && base.low.add(big(s[3])).mod(big(8)).signum() == 0;
        if (!what.isNumber() && !whole) {
            throw new Fault(3);
        }
        int from = (int) placed(base, s[3], bytes) + 64;
        if (whole) {
            Arrays.fill(way.stack, from, from + 8, new Held(what));
        } else if (onStack) {
            for (int b = from; b < from + bytes; b++) {
                if (way.stack[b] instanceof Held held) {
                    int eight = b - b % 8;
                    Arrays.fill(way.stack, eight, eight + 8, held.known.isNumber() ? DATA : null);
                }
                way.stack[b] = DATA;
            }
        }
    }

    private void call(int number) throws Fault {
        Known outcome = Known.number(0, number == 4 ? 0 : number == 5 ? Asked.LOW_32 : 1);
        if (number == 4 && !used(1).isNumber()) {
            throw new Fault(6);
        }
        if (number <= 3) {
            int last = number == 2 ? 3 : 2;
            for (int r = 1; r <= last; r++) {
                used(r);
            }
            Known map = way.registers[1];
            if (map.kind != Kind.MAP) {
                throw new Fault(6);
            }
            int least = 9;
            for (int r = 2; r <= last; r++) {
                least = Math.min(least, faultOfBytes(way.registers[r], row.maps.get(map.map)[r - 2]));
            }
            if (least < 9) {
                throw new Fault(least);
            }
            if (number == 1) {
                tags++;
                outcome = Known.pointer(Kind.MAYBE, map.map, tags);
            }
        }
        Arrays.fill(way.registers, 1, 6, null);
        way.registers[0] = outcome;
    }

    private int faultOfBytes(Known base, int bytes) {
        if (base.kind != Kind.STACK) {
            return 6;
        }
        try {
            readOneByOne((int) placed(base, 0, bytes) + 64, bytes);
            return 9;
        } catch (Fault met) {
            return met.number;
        }
    }

    private void part(int i, int[] s) throws Fault {
        Known a = used(s[1]);
        Known b = s[0] >= 81 ? Known.number(s[4], s[4]) : used(s[2]);
        int relation = s[0] >= 81 ? s[0] - 16 : s[0];
        Way[] sides = {way.copy(), way.copy()};
        boolean[] canBe = {true, true};
        if (a.isNumber() && b.isNumber()) {
            for (int side = 0; side < 2; side++) {
                canBe[side] = confine(sides[side], s, relation, side == 1, a.ends(), b.ends());
            }
        } else if (a.kind == Kind.MAYBE && s[0] >= 81 && s[4] == 0 && relation <= 66) {
            Known there = Known.pointer(Kind.VALUE, a.map, 0);
            sides[0].settle(a.tag, relation == 65 ? there : Known.number(0, 0));
            sides[1].settle(a.tag, relation == 66 ? there : Known.number(0, 0));
        } else if (relation >= 67 && relation <= 70 && (a.kind == Kind.PACKET && b.kind == Kind.END
            || a.kind == Kind.END && b.kind == Kind.PACKET)) {
            learn(sides, relation, a, b);
        } else {
            throw new Fault(3);
        }
        sides[0].at = i + 1;
        sides[1].at = i + 1 + s[3];
        if (canBe[0] && i + 1 == row.size()) {
            throw new Fault(7);
        }
        if (canBe[0] && canBe[1]) {
            if (waiting.size() == 100) {
                throw new Fault(8);
            }
            waiting.push(sides[1]);
        }
        way = canBe[0] ? sides[0] : canBe[1] ? sides[1] : waiting.poll();
    }

    private static boolean confine(Way side, int[] s, int relation, boolean so, long[] x, long[] y) {
        boolean same = s[0] < 81 && s[1] == s[2];
        if (x[0] == x[1] && y[0] == y[1]) {
            return ConditionsTest.holds(relation, x[0], y[0]) == so;
        }
        if (relation == 75) {
            return true;
        }
        long[] ends = ConditionsTest.due(so ? relation : ConditionsTest.opposite(relation), x, y, same);
        if (ends == null) {
            return false;
        }
        side.registers[s[1]] = Known.number(ends[0], ends[1]);
        if (s[0] < 81) {
            side.registers[s[2]] = Known.number(ends[2], ends[3]);
        }
        return true;
    }

    /** The length grows on the side on which the PACKET's pointer is below END, or not above it. */
    private static void learn(Way[] sides, int relation, Known a, Known b) {
        boolean packetFirst = a.kind == Kind.PACKET;
        int seenFromPacket = packetFirst ? relation : relation == 67 ? 69 : relation == 68 ? 70 : relation == 69 ? 67 : 68;
        boolean onJump = seenFromPacket <= 68;
        boolean below = seenFromPacket == 67 || seenFromPacket == 70;
        BigInteger known = (packetFirst ? a : b).low.add(below ? BigInteger.ONE : BigInteger.ZERO);
        Way side = sides[onJump ? 1 : 0];
        side.length = side.length.max(known);
    }
}

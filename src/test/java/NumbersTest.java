import java.math.BigInteger;
import java.util.Random;

/**
 * Promises 4, 9 and 13, NUMBERS: what's KNOWN behind each operation, and what a run makes of it,
 * told here once more, over BigInteger.
 */
public final class NumbersTest {
    private static final BigInteger ZERO = BigInteger.ZERO;
    private static final BigInteger ONE = BigInteger.ONE;
    private static final BigInteger TWO_64 = ONE.shiftLeft(64);
    private static final long[] ENDS = {0, 1, 2, 3, 5, 31, 32, 33, 63, 64, 65, 255, 256, 1000, 0x7FFFFFFFL, 0x80000000L,
        0xFFFFFFFFL, 0x100000000L, 0x100000001L, 1L << 62, Asked.GREATEST - 1, Asked.GREATEST, Asked.LEAST,
        Asked.LEAST + 1, -1, -2, -5, -32, -64, -1000, -0x80000000L, -0x80000001L, -0xFFFFFFFFL, -0x100000000L};

    public static void main(String[] args) {
        byHand();
        known();
        outcomes();
        others();
        Asked.end();
    }

    private static BigInteger big(long number) {
        return BigInteger.valueOf(number);
    }

    private static BigInteger unsigned(long number) {
        return number < 0 ? big(number).add(TWO_64) : big(number);
    }

    /** What an instruction makes of two longs. */
    static long outcome(int sort, long dst, long b) {
        boolean narrow = (sort & 32) != 0;
        long x = narrow ? dst & Asked.LOW_32 : dst;
        long y = narrow ? b & Asked.LOW_32 : b;
        int by = (int) (y & (narrow ? 31 : 63));
        BigInteger z;
        switch (sort & 15) {
            case 0: z = big(y); break;
            case 1: z = big(x).add(big(y)); break;
            case 2: z = big(x).subtract(big(y)); break;
            case 3: z = big(x).multiply(big(y)); break;
            case 4: z = y == 0 ? ZERO : unsigned(x).divide(unsigned(y)); break;
            case 5: z = y == 0 ? big(x) : unsigned(x).mod(unsigned(y)); break;
            case 6: z = big(x).and(big(y)); break;
            case 7: z = big(x).or(big(y)); break;
            case 8: z = big(x).xor(big(y)); break;
            case 9: z = big(x).shiftLeft(by); break;
            case 10: z = unsigned(x).shiftRight(by); break;
            case 11: z = big(narrow ? (int) x : x).shiftRight(by); break;
            default: z = big(x).negate(); break;
        }
        return narrow ? z.longValue() & Asked.LOW_32 : z.longValue();
    }

    private static boolean isLong(BigInteger number) {
        return number.bitLength() <= 63;
    }

    private static long[] cut(long low, long high) {
        if (low == high) {
            return new long[] {low & Asked.LOW_32, low & Asked.LOW_32};
        }
        return low >= 0 && high <= Asked.LOW_32 ? new long[] {low, high} : new long[] {0, Asked.LOW_32};
    }

    /** What's KNOWN behind an operation. */
    static long[] due(int sort, long xLow, long xHigh, long yLow, long yHigh) {
        boolean narrow = (sort & 32) != 0;
        int operation = sort & 15;
        long[] x = narrow ? cut(xLow, xHigh) : new long[] {xLow, xHigh};
        long[] y = narrow ? cut(yLow, yHigh) : new long[] {yLow, yHigh};
        boolean xConst = x[0] == x[1] || operation == 0;
        boolean yConst = y[0] == y[1] || operation == 12;
        if (xConst && yConst) {
            long only = outcome(sort, x[0], y[0]);
            return new long[] {only, only};
        }
        if (narrow && (operation == 11 || operation == 12)) {
            return new long[] {0, Asked.LOW_32};
        }
        long[] z = wide(operation, x, y, narrow ? 31 : 63);
        return narrow ? cut(z[0], z[1]) : z;
    }

    private static long[] wide(int operation, long[] x, long[] y, int mask) {
        long[] all = {Asked.LEAST, Asked.GREATEST};
        boolean positive = x[0] >= 0 && y[0] >= 0;
        switch (operation) {
            case 0: return y;
            case 1: return span(big(x[0]).add(big(y[0])), big(x[1]).add(big(y[1])));
            case 2: return span(big(x[0]).subtract(big(y[1])), big(x[1]).subtract(big(y[0])));
            case 3: return span(big(x[0]).multiply(big(y[0])), big(x[0]).multiply(big(y[1])),
                big(x[1]).multiply(big(y[0])), big(x[1]).multiply(big(y[1])));
            case 4:
                if (positive && y[0] > 0) {
                    return new long[] {x[0] / y[1], x[1] / y[0]};
                }
                return positive ? new long[] {0, x[1]} : all;
            case 5:
                if (positive && y[0] > 0) {
                    return new long[] {0, Math.min(x[1], y[1] - 1)};
                }
                return positive ? new long[] {0, x[1]} : all;
            case 6:
                if (positive) {
                    return new long[] {0, Math.min(x[1], y[1])};
                }
                return x[0] >= 0 ? new long[] {0, x[1]} : y[0] >= 0 ? new long[] {0, y[1]} : all;
            case 7:
            case 8:
                int k = Math.max(big(x[1]).bitLength(), big(y[1]).bitLength());
                long top = ONE.shiftLeft(k).subtract(ONE).longValue();
                return positive ? new long[] {operation == 7 ? Math.max(x[0], y[0]) : 0, top} : all;
            case 12: return span(big(x[1]).negate(), big(x[0]).negate());
            default: return shifted(operation, x, y, mask);
        }
    }

    private static long[] shifted(int operation, long[] x, long[] y, int mask) {
        long[] all = {Asked.LEAST, Asked.GREATEST};
        if (y[0] != y[1]) {
            return operation != 9 && x[0] >= 0 ? new long[] {0, x[1]} : all;
        }
        int by = (int) (y[0] & mask);
        if (operation == 9) {
            BigInteger top = big(x[1]).shiftLeft(by);
            return x[0] >= 0 && isLong(top) ? new long[] {big(x[0]).shiftLeft(by).longValue(), top.longValue()} : all;
        }
        if (operation == 11 || x[0] >= 0) {
            return new long[] {big(x[0]).shiftRight(by).longValue(), big(x[1]).shiftRight(by).longValue()};
        }
        return by == 0 ? x : new long[] {0, TWO_64.subtract(ONE).shiftRight(by).longValue()};
    }

    private static long[] span(BigInteger... outcomes) {
        BigInteger least = outcomes[0];
        BigInteger greatest = outcomes[0];
        for (BigInteger o : outcomes) {
            least = least.min(o);
            greatest = greatest.max(o);
        }
        return isLong(least) && isLong(greatest)
            ? new long[] {least.longValue(), greatest.longValue()} : new long[] {Asked.LEAST, Asked.GREATEST};
    }

    private static void ask(int sort, long[] x, long[] y, long[] due) {
        Asked.Row row = new Asked.Row().range(5, x[0], x[1]).range(6, y[0], y[1]);
        int at = row.size();
        row.add(sort, 5, 6, 0, 0).move(0, 0).exit();
        tell(row, at, "sort " + sort + " of " + x[0] + " .. " + x[1] + " and " + y[0] + " .. " + y[1], due);
        if (y[0] == y[1] && y[0] == (int) y[0]) {
            Asked.Row withImm = new Asked.Row().range(5, x[0], x[1]);
            int there = withImm.size();
            withImm.add(sort + 16, 5, 6, 0, (int) y[0]).move(0, 0).exit();
            tell(withImm, there, "sort " + (sort + 16) + " of " + x[0] + " .. " + x[1] + " and " + y[0], due);
        }
    }

    private static void tell(Asked.Row row, int at, String what, long[] due) {
        FilterGuard guard = row.given();
        Asked.due(what + ": check", 0, guard.check());
        Asked.due(what + ": low", due[0], guard.known(at + 1, 5, 0));
        Asked.due(what + ": high", due[1], guard.known(at + 1, 5, 1));
        Asked.due(what + ": a number", 1, guard.known(at + 1, 5, 2));
        Asked.due(what + ": gone", 1, guard.known(at + 1, 5, 3));
    }

    static void hand(int sort, long xLow, long xHigh, long yLow, long yHigh, long low, long high) {
        ask(sort, new long[] {xLow, xHigh}, new long[] {yLow, yHigh}, new long[] {low, high});
    }

    private static void byHand() {
        long least = Asked.LEAST;
        long most = Asked.GREATEST;
        hand(0, 1, 9, 3, 4, 3, 4);
        hand(1, 1, 9, 3, 4, 4, 13);
        hand(1, 1, most, 0, 1, least, most);
        hand(1, least, most, 0, 0, least, most);
        hand(2, 1, 9, 3, 4, -3, 6);
        hand(2, -1, 0, 0, most, least, most - most);
        hand(2, -2, 0, 0, most, least, most);
        hand(3, -3, 2, -5, 4, -12, 15);
        hand(3, -1, 1, least, least, least, most);
        hand(4, 10, 20, 2, 5, 2, 10);
        hand(4, 10, 20, 0, 5, 0, 20);
        hand(4, 10, 20, -1, 5, least, most);
        hand(4, -1, 20, 1, 5, least, most);
        hand(5, 10, 20, 3, 5, 0, 4);
        hand(5, 0, 2, 3, 5, 0, 2);
        hand(5, 10, 20, 0, 5, 0, 20);
        hand(6, 10, 20, -1, 5, 0, 20);
        hand(6, -1, 5, 10, 20, 0, 20);
        hand(6, 1, 5, 10, 20, 0, 5);
        hand(7, 1, 5, 9, 16, 9, 31);
        hand(8, 1, 5, 9, 16, 0, 31);
        hand(7, 0, 1, 0, 0, 0, 1);
        hand(8, -1, 5, 9, 16, least, most);
        hand(9, 1, 5, 3, 3, 8, 40);
        hand(9, 1, 5, 67, 67, 8, 40);
        hand(9, 0, 1, 62, 62, 0, 1L << 62);
        hand(9, 0, 1, 63, 63, least, most);
        hand(9, -1, 1, 1, 1, least, most);
        hand(9, 0, 1, 0, 1, least, most);
        hand(10, 8, 40, 3, 3, 1, 5);
        hand(10, -8, 40, 64, 64, -8, 40);
        hand(10, -8, 40, 4, 4, 0, (1L << 60) - 1);
        hand(10, 8, 40, 0, 1, 0, 40);
        hand(10, -8, 40, 0, 1, least, most);
        hand(11, -8, 40, 2, 2, -2, 10);
        hand(11, 8, 40, -1, 1, 0, 40);
        hand(11, -8, 40, 0, 1, least, most);
        hand(12, -8, 40, 0, 0, -40, 8);
        hand(12, least, 0, 0, 0, least, most);
        hand(12, least, least, 0, 0, least, least);
        hand(32, 0, 0, -1, 5, 0, Asked.LOW_32);
        hand(33, 0, 5, 0, 9, 0, 14);
        hand(33, 0, 5, 0, Asked.LOW_32, 0, Asked.LOW_32);
        hand(34, 9, 10, 0, 9, 0, 10);
        hand(34, 8, 10, 0, 9, 0, Asked.LOW_32);
        hand(36, 10, 20, 0x100000002L, 0x100000002L, 5, 10);
        hand(38, -9, -1, 7, 7, 0, 7);
        hand(41, 1, 5, 33, 33, 2, 10);
        hand(41, 0, Asked.LOW_32, 1, 1, 0, Asked.LOW_32);
        hand(43, 8, 9, 1, 1, 0, Asked.LOW_32);
        hand(43, 0x80000000L, 0x80000000L, 31, 31, Asked.LOW_32, Asked.LOW_32);
        hand(44, 1, 2, 0, 0, 0, Asked.LOW_32);
        hand(44, 1, 1, 0, 0, Asked.LOW_32, Asked.LOW_32);
    }

    private static long[] someRange(Random random) {
        long a = someEnd(random);
        if (random.nextInt(3) == 0) {
            return new long[] {a, a};
        }
        long b = random.nextInt(3) == 0 ? a + random.nextInt(5) : someEnd(random);
        return new long[] {Math.min(a, b), Math.max(a, b)};
    }

    private static long someEnd(Random random) {
        int kind = random.nextInt(6);
        long end = ENDS[random.nextInt(ENDS.length)];
        return kind == 0 ? random.nextLong() >> random.nextInt(64) : kind == 1 ? end + random.nextInt(7) - 3 : end;
    }

    private static void known() {
        Random random = new Random(1);
        for (int n = 0; n < 400; n++) {
            for (int operation = 0; operation <= 12; operation++) {
                long[] x = someRange(random);
                long[] y = someRange(random);
                ask(operation, x, y, due(operation, x[0], x[1], y[0], y[1]));
                ask(operation + 32, x, y, due(operation + 32, x[0], x[1], y[0], y[1]));
            }
        }
    }

    /** Runs over a map's value, so that nothing of the numbers is KNOWN before. */
    private static void outcomes() {
        Random random = new Random(2);
        for (int sort = 0; sort <= 44; sort++) {
            if ((sort & 15) > 12 || (sort & 16) != 0) {
                continue;
            }
            FilterGuard guard = new Asked.Row().copy(6, 1).copy(7, 1).add(17, 7, 0, 0, 16).move(0, 0)
                .add(69, 7, 2, 3, 0).add(99, 0, 6, 0, 0).add(99, 3, 6, 8, 0).add(sort, 0, 3, 0, 0).exit()
                .passes("outcomes of " + sort);
            for (int n = 0; n < 80; n++) {
                long x = someEnd(random);
                long y = someEnd(random);
                guard.end(guard.count(2));
                guard.feed(swapped(x), swapped(x >> 32), swapped(y), swapped(y >> 32), 0);
                Asked.due(x + " " + sort + " " + y, outcome(sort, x, y), guard.run());
                int imm = (int) someEnd(random);
                FilterGuard withImm = new Asked.Row().constant(6, x).add(sort + 16, 6, 0, 0, imm).copy(0, 6).exit()
                    .passes("with imm");
                Asked.due(x + " " + (sort + 16) + " " + imm, outcome(sort, x, imm), withImm.run());
                Asked.due("it was foretold", outcome(sort, x, imm), withImm.known(7, 0, 0));
            }
            Asked.due("strays", 0, guard.count(9));
        }
    }

    private static int swapped(long number) {
        return Integer.reverseBytes((int) number);
    }

    private static void others() {
        FilterGuard guard = new Asked.Row().map(1, 1, 1).copy(6, 1).copy(7, 1).add(17, 7, 0, 0, 8).move(0, 0)
            .add(69, 7, 2, 17, 0)
            .add(96, 0, 6, 0, 0).add(97, 0, 6, 0, 0).add(98, 0, 6, 0, 0).add(99, 0, 6, 0, 0)
            .add(104, 10, 0, -1, 0).copy(8, 10).add(17, 8, 0, 0, -1)
            .copy(2, 8).copy(3, 8).add(114, 1, 0, 0, 0).call(2)
            .copy(2, 8).add(114, 1, 0, 0, 0).call(3).move(1, 9).call(4).call(5).exit().runs("others", 0);
        long[][] due = {{6, 0, 255}, {7, 0, 65535}, {8, 0, Asked.LOW_32}, {9, Asked.LEAST, Asked.GREATEST},
            {16, 0, 1}, {19, 0, 1}, {21, 0, 0}};
        for (long[] d : due) {
            Asked.due("low before " + d[0], d[1], guard.known((int) d[0], 0, 0));
            Asked.due("high before " + d[0], d[2], guard.known((int) d[0], 0, 1));
        }
        Asked.due("low at the end", 0, guard.known(22, 0, 0));
        Asked.due("high at the end", Asked.LOW_32, guard.known(22, 0, 1));
    }
}

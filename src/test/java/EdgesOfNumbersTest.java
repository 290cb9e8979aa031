/** NUMBERS, sentence by sentence: what's KNOWN behind an operation, at the ends of RANGES that are named. */
public final class EdgesOfNumbersTest {
    private static final long LEAST = Asked.LEAST;
    private static final long GREATEST = Asked.GREATEST;
    private static final long LOW_32 = Asked.LOW_32;

    public static void main(String[] args) {
        consts();
        moves();
        sums();
        differences();
        products();
        quotients();
        quotientsByZeroOrMore();
        remainders();
        remaindersByZeroOrMore();
        ands();
        ors();
        xors();
        lefts();
        rights();
        rightsByUnknown();
        signedRights();
        negations();
        cutFirst();
        cutAndThenAsAbove();
        narrowSignedRightAndNeg();
        cutLikewise();
        loads();
        calls();
        Asked.end();
    }

    /** x and y by their ends, then what's KNOWN of x's register behind the sort; with imm too where y is one. */
    private static void behind(int sort, long xLow, long xHigh, long yLow, long yHigh, long low, long high) {
        NumbersTest.hand(sort, xLow, xHigh, yLow, yHigh, low, high);
    }

    private static void all(int sort, long xLow, long xHigh, long yLow, long yHigh) {
        behind(sort, xLow, xHigh, yLow, yHigh, LEAST, GREATEST);
    }

    /** CONSTS, and their outcome. */
    private static void only(int sort, long x, long y, long outcome) {
        behind(sort, x, x, y, y, outcome, outcome);
    }

    private static void consts() {
        Asked.says("of CONSTS the outcome itself.");
        only(0, 3, LEAST, LEAST);
        only(1, GREATEST, 1, LEAST);
        only(2, LEAST, 1, GREATEST);
        only(3, LEAST, -1, LEAST);
        only(4, -1, 2, GREATEST);
        only(4, -1, 0, 0);
        only(5, -1, 0, -1);
        only(5, -1, 10, 5);
        only(6, -1, LEAST, LEAST);
        only(7, -2, 1, -1);
        only(8, -1, 1, -2);
        only(9, -1, 63, LEAST);
        only(9, 1, 64, 1);
        only(10, -1, 63, 1);
        only(11, LEAST, 63, -1);
        only(12, LEAST, 0, LEAST);
        only(12, 5, 3, -5);
        // A NEG of a CONST is one, whatever src is.
        behind(12, 5, 5, 0, 9, -5, -5);
    }

    private static void moves() {
        Asked.says("Else MOVE: y.");
        behind(0, 0, 5, LEAST, GREATEST, LEAST, GREATEST);
        behind(0, 7, 7, -1, 3, -1, 3);
        behind(0, 0, 5, 9, 9, 9, 9);
    }

    private static void sums() {
        Asked.says("ADD, SUB, MUL: the least and greatest outcome of ends, if all of them are longs; else ALL.");
        behind(1, 0, 1, GREATEST - 1, GREATEST - 1, GREATEST - 1, GREATEST);
        all(1, 0, 1, GREATEST, GREATEST);
        behind(1, LEAST + 1, 0, -1, -1, LEAST, -1);
        all(1, LEAST, 0, -1, -1);
        behind(1, LEAST, -1, 0, GREATEST, LEAST, GREATEST - 1);
        all(1, LEAST, 0, -1, GREATEST);
        behind(1, -3, 4, -5, 6, -8, 10);
        behind(1, 4, 4, -5, 6, -1, 10);
        all(1, 0, 0x5555555555555555L, 0x5555555555555555L, 0x5555555555555555L);
    }

    private static void differences() {
        Asked.says("ADD, SUB, MUL: the least and greatest outcome of ends, if all of them are longs; else ALL.");
        behind(2, -1, 0, GREATEST, GREATEST, LEAST, LEAST + 1);
        all(2, -2, 0, GREATEST, GREATEST);
        behind(2, -2, -1, LEAST, LEAST + 1, GREATEST - 2, GREATEST);
        all(2, -1, 0, LEAST, LEAST);
        behind(2, LEAST + 1, 0, 1, 1, LEAST, -1);
        all(2, LEAST, 0, 1, 1);
        behind(2, -3, 4, -5, 6, -9, 9);
        behind(2, 0, 5, 0, 5, -5, 5);
        all(2, 0xAAAAAAAAAAAAAAAAL, 0, 0x5555555555555555L, 0x5555555555555555L);
    }

    private static void products() {
        Asked.says("ADD, SUB, MUL: the least and greatest outcome of ends, if all of them are longs; else ALL.");
        behind(3, -1, 1, GREATEST, GREATEST, -GREATEST, GREATEST);
        all(3, -1, 1, LEAST, LEAST);
        behind(3, 0, 1, LEAST, LEAST, LEAST, 0);
        all(3, LEAST, LEAST + 1, -1, 0);
        behind(3, -2, -1, 1L << 62, 1L << 62, LEAST, -(1L << 62));
        all(3, 1, 2, 1L << 62, 1L << 62);
        behind(3, 1, 3, 1L << 61, 1L << 61, 1L << 61, 3L << 61);
        all(3, 1, 4, 1L << 61, 1L << 61);
        behind(3, -3, 2, -5, 4, -12, 15);
        behind(3, -3, 2, 4, 5, -15, 10);
        behind(3, -3, -2, -5, 4, -12, 15);
        behind(3, LEAST, GREATEST, 0, 0, 0, 0);
        behind(3, LEAST, GREATEST, 1, 1, LEAST, GREATEST);
        all(3, LEAST, GREATEST, -1, -1);
        behind(3, LEAST + 1, GREATEST, -1, -1, LEAST + 1, GREATEST);
    }

    private static void quotients() {
        Asked.says("DIV: y.low above 0 and x.low not below 0: x.low / y.high .. x.high / y.low;");
        behind(4, 10, 20, 1, 5, 2, 20);
        behind(4, 0, 20, 2, 5, 0, 10);
        behind(4, 10, 10, 3, 5, 2, 3);
        behind(4, 10, 20, 3, 3, 3, 6);
        behind(4, 0, GREATEST, 1, GREATEST, 0, GREATEST);
        behind(4, GREATEST - 1, GREATEST, GREATEST, GREATEST, 0, 1);
        behind(4, 4, 7, 4, 4, 1, 1);
        all(4, -1, 20, 1, 5);
        all(4, LEAST, -1, 1, 5);
        all(4, -1, -1, 1, 2);
    }

    private static void quotientsByZeroOrMore() {
        Asked.says("x.low and y.low not below 0: 0 .. x.high; else ALL. MOD");
        behind(4, 10, 20, 0, 5, 0, 20);
        behind(4, 10, 20, 0, 0, 0, 20);
        behind(4, 10, 10, 0, 5, 0, 10);
        behind(4, 0, GREATEST, 0, GREATEST, 0, GREATEST);
        all(4, 10, 20, -1, 5);
        all(4, 10, 20, -1, -1);
        all(4, -1, 20, 0, 5);
        all(4, -1, 20, -1, 5);
    }

    private static void remainders() {
        Asked.says("MOD: y.low above 0, x.low not below 0: 0 .. the lesser of x.high and y.high - 1;");
        behind(5, 10, 20, 1, 5, 0, 4);
        behind(5, 0, 4, 5, 5, 0, 4);
        behind(5, 0, 5, 5, 5, 0, 4);
        behind(5, 0, 3, 5, 5, 0, 3);
        behind(5, 0, 9, 1, 1, 0, 0);
        behind(5, 2, 3, 9, 10, 0, 3);
        behind(5, 7, 7, 1, 4, 0, 3);
        behind(5, 0, GREATEST, GREATEST, GREATEST, 0, GREATEST - 1);
        all(5, -1, 20, 1, 5);
        all(5, 10, 20, -1, 5);
    }

    private static void remaindersByZeroOrMore() {
        Asked.says("both not below 0: 0 .. x.high; else ALL. AND");
        behind(5, 10, 20, 0, 5, 0, 20);
        behind(5, 10, 20, 0, 0, 0, 20);
        behind(5, 7, 7, 0, 3, 0, 7);
        all(5, -1, 20, 0, 5);
        all(5, -1, 20, 0, 0);
        all(5, 10, 20, -1, -1);
    }

    private static void ands() {
        Asked.says("AND: one low isn't below 0: 0 .. that high (both: the lesser); else ALL.");
        behind(6, 0, 9, -1, 5, 0, 9);
        behind(6, -1, 9, 0, 5, 0, 5);
        behind(6, -1, 3, 0, 5, 0, 5);
        behind(6, 0, 5, -1, 3, 0, 5);
        behind(6, 0, 9, 0, 5, 0, 5);
        behind(6, 0, 5, 0, 9, 0, 5);
        behind(6, 3, 9, 4, 9, 0, 9);
        behind(6, LEAST, GREATEST, 255, 255, 0, 255);
        behind(6, 255, 255, LEAST, GREATEST, 0, 255);
        behind(6, LEAST, GREATEST, 0, 0, 0, 0);
        behind(6, 0, GREATEST, LEAST, LEAST, 0, GREATEST);
        all(6, -1, 9, -1, 5);
        all(6, LEAST, GREATEST, -1, -1);
    }

    private static void ors() {
        Asked.says("OR, XOR: both lows not below 0: 0 (OR: the greater low) .. the least 2^k - 1 that isn't below a high; else ALL.");
        behind(7, 0, 1, 0, 0, 0, 1);
        behind(7, 0, 2, 0, 0, 0, 3);
        behind(7, 0, 3, 0, 0, 0, 3);
        behind(7, 0, 4, 0, 0, 0, 7);
        behind(7, 2, 4, 3, 8, 3, 15);
        behind(7, 3, 8, 2, 4, 3, 15);
        behind(7, 0, (1L << 62) - 1, 0, 1, 0, (1L << 62) - 1);
        behind(7, 0, 1L << 62, 0, 1, 0, GREATEST);
        behind(7, 0, GREATEST, 5, 5, 5, GREATEST);
        all(7, -1, 3, 0, 5);
        all(7, 0, 3, -1, 5);
        all(7, 0, 3, -1, -1);
    }

    private static void xors() {
        Asked.says("OR, XOR: both lows not below 0: 0 (OR: the greater low) .. the least 2^k - 1 that isn't below a high; else ALL.");
        behind(8, 0, 1, 0, 0, 0, 1);
        behind(8, 2, 4, 3, 8, 0, 15);
        behind(8, 3, 7, 3, 7, 0, 7);
        behind(8, 3, 8, 3, 7, 0, 15);
        behind(8, 0, GREATEST, 5, 5, 0, GREATEST);
        all(8, -1, 3, 0, 5);
        all(8, 0, 3, -1, -1);
    }

    private static void lefts() {
        Asked.says("LEFT: y CONST, x.low not below 0, and x.high shifted is right as a long without loss: both ends shifted; else ALL.");
        behind(9, 1, 5, 3, 3, 8, 40);
        behind(9, 0, 1, 62, 62, 0, 1L << 62);
        all(9, 0, 1, 63, 63);
        behind(9, 0, (1L << 62) - 1, 1, 1, 0, GREATEST - 1);
        all(9, 0, 1L << 62, 1, 1);
        behind(9, 3, GREATEST, 0, 0, 3, GREATEST);
        behind(9, 3, GREATEST, 64, 64, 3, GREATEST);
        behind(9, 1, 5, 65, 65, 2, 10);
        behind(9, 1, 5, LEAST, LEAST, 1, 5);
        all(9, 0, 1, -1, -1);
        all(9, 0, 2, 63, 63);
        all(9, -1, 5, 1, 1);
        all(9, -1, 5, 0, 0);
        all(9, 1, 5, 0, 1);
        all(9, 1, 1, 0, 1);
        all(9, 0, 0, 0, 1);
    }

    private static void rights() {
        Asked.says("RIGHT: y CONST: x.low not below 0: both ends shifted; else, by 0: x; else 0 .. -1 shifted so;");
        behind(10, 8, 40, 3, 3, 1, 5);
        behind(10, 0, GREATEST, 63, 63, 0, 0);
        behind(10, 0, GREATEST, 62, 62, 0, 1);
        behind(10, 8, 40, 0, 0, 8, 40);
        behind(10, 8, 40, 64, 64, 8, 40);
        behind(10, 8, 40, 65, 65, 4, 20);
        behind(10, -1, 40, 0, 0, -1, 40);
        behind(10, -1, 40, 64, 64, -1, 40);
        behind(10, LEAST, GREATEST, 0, 0, LEAST, GREATEST);
        behind(10, -1, 40, 1, 1, 0, GREATEST);
        behind(10, -1, 40, 63, 63, 0, 1);
        behind(10, -1, 40, -1, -1, 0, 1);
        behind(10, LEAST, -1, 32, 32, 0, LOW_32);
    }

    private static void rightsByUnknown() {
        Asked.says("y no CONST: x.low not below 0: 0 .. x.high; else ALL.");
        behind(10, 8, 40, 0, 1, 0, 40);
        behind(10, 0, GREATEST, -5, 5, 0, GREATEST);
        behind(10, 8, 8, 0, 1, 0, 8);
        all(10, -1, 40, 0, 1);
        all(10, -1, -1, 1, 2);
    }

    private static void signedRights() {
        Asked.says("SIGNED RIGHT: y CONST: both ends shifted; else as RIGHT.");
        behind(11, -8, 7, 1, 1, -4, 3);
        behind(11, -7, 7, 1, 1, -4, 3);
        behind(11, -8, -3, 1, 1, -4, -2);
        behind(11, LEAST, -1, 63, 63, -1, -1);
        behind(11, LEAST, GREATEST, 63, 63, -1, 0);
        behind(11, LEAST, GREATEST, 64, 64, LEAST, GREATEST);
        behind(11, LEAST, GREATEST, 1, 1, LEAST / 2, GREATEST / 2);
        behind(11, 8, 40, 3, 3, 1, 5);
        behind(11, 8, 40, 0, 1, 0, 40);
        behind(11, 8, 8, 0, 1, 0, 8);
        all(11, -1, 40, 0, 1);
        all(11, -8, -8, 0, 1);
    }

    private static void negations() {
        Asked.says("NEG: as 0 SUB x.");
        behind(12, -8, 40, 0, 0, -40, 8);
        behind(12, LEAST + 1, 5, 0, 0, -5, GREATEST);
        all(12, LEAST, 5, 0, 0);
        behind(12, 0, GREATEST, 0, 0, -GREATEST, 0);
        all(12, LEAST, GREATEST, 0, 0);
    }

    private static void cutFirst() {
        Asked.says("With 32 more: x and y are cut first (a RANGE in 0 .. 2^32 - 1 stays, a CONST is cut, others become 0 .. 2^32 - 1)");
        behind(32, 0, 0, 3, LOW_32, 3, LOW_32);
        behind(32, 0, 0, 0, LOW_32, 0, LOW_32);
        behind(32, 0, 0, 3, LOW_32 + 1, 0, LOW_32);
        behind(32, 0, 0, -1, 5, 0, LOW_32);
        behind(32, 0, 0, LOW_32 + 1, LOW_32 + 2, 0, LOW_32);
        behind(32, 0, 0, LEAST, -1, 0, LOW_32);
        only(32, 0, LOW_32, LOW_32);
        only(32, 0, LOW_32 + 1, 0);
        only(32, 0, LOW_32 + 6, 5);
        only(32, 0, -1, LOW_32);
        only(32, 0, LEAST, 0);
    }

    private static void cutAndThenAsAbove() {
        Asked.says("then as above");
        behind(33, LOW_32 + 6, LOW_32 + 6, 0, 1, 5, 6);
        behind(33, 0, 1, -1, -1, 0, LOW_32);
        only(33, LOW_32, 1, 0);
        only(34, 0, 1, LOW_32);
        only(35, LOW_32, LOW_32, 1);
        only(36, -1, 2, LOW_32 / 2);
        only(37, -1, 0, LOW_32);
        behind(36, LEAST, GREATEST, 2, 2, 0, LOW_32 / 2);
        behind(36, 10, 20, LOW_32 + 1, LOW_32 + 1, 0, 20);
        behind(36, 10, 20, -2, -1, 0, 20);
        behind(36, 10, 20, -1, -1, 0, 0);
        behind(37, LEAST, GREATEST, 9, 9, 0, 8);
        behind(37, LEAST, GREATEST, 0, 0, 0, LOW_32);
        behind(38, -9, -1, 7, 7, 0, 7);
        behind(38, -9, -1, -1, -1, 0, LOW_32);
        behind(39, -9, -1, 1, 1, 1, LOW_32);
        behind(40, 0, 5, 9, 9, 0, 15);
        behind(41, 1, 5, 33, 33, 2, 10);
        behind(41, 1, 5, 32, 32, 1, 5);
        behind(41, 1, 5, 0, 1, 0, LOW_32);
        behind(42, -1, 5, 4, 4, 0, LOW_32 >> 4);
        behind(42, -1, 5, 32, 32, 0, LOW_32);
        behind(42, 8, 40, 35, 35, 1, 5);
        behind(42, 8, 40, 0, 1, 0, 40);
        behind(42, -8, 40, 0, 1, 0, LOW_32);
    }

    private static void narrowSignedRightAndNeg() {
        Asked.says("but SIGNED RIGHT and NEG: 0 .. 2^32 - 1;");
        behind(43, 8, 9, 1, 1, 0, LOW_32);
        behind(43, 8, 9, 0, 0, 0, LOW_32);
        behind(43, 8, 9, 0, 1, 0, LOW_32);
        behind(43, 8, 8, 0, 1, 0, LOW_32);
        behind(44, 0, 1, 0, 0, 0, LOW_32);
        behind(44, 1, 2, 0, 0, 0, LOW_32);
        // CONSTS have their outcome itself here too.
        only(43, 0x80000000L, 31, LOW_32);
        only(43, 8, 1, 4);
        only(44, 1, 0, LOW_32);
        only(44, 0, 0, 0);
    }

    private static void cutLikewise() {
        Asked.says("the outcome is cut likewise.");
        behind(33, 0, LOW_32 - 1, 1, 1, 1, LOW_32);
        behind(33, 0, LOW_32, 1, 1, 0, LOW_32);
        behind(33, 1, LOW_32, LOW_32, LOW_32, 0, LOW_32);
        behind(34, 1, 5, 1, 1, 0, 4);
        behind(34, 0, 5, 1, 1, 0, LOW_32);
        behind(35, 1, 65535, 65537, 65537, 65537, LOW_32);
        behind(35, 1, 65535, 65538, 65538, 0, LOW_32);
        behind(35, 0, LOW_32, 0, LOW_32, 0, LOW_32);
        behind(35, 5, 6, LOW_32 + 1, LOW_32 + 1, 0, 0);
        behind(41, 1, 0x7FFFFFFFL, 1, 1, 2, 0xFFFFFFFEL);
        behind(41, 1, 0x80000000L, 1, 1, 0, LOW_32);
        behind(41, 1, LOW_32, 0, 0, 1, LOW_32);
    }

    private static void loads() {
        Asked.says("A LOAD of less than 8 bytes: 0 .. the greatest; of 8: ALL.");
        long[] greatest = {255, 65535, LOW_32, GREATEST};
        for (int size = 0; size < 4; size++) {
            long low = size == 3 ? LEAST : 0;
            FilterGuard packet = new Asked.Row().copy(7, 1).add(17, 7, 0, 0, 8).move(0, 0).add(68, 7, 2, 1, 0).exit()
                .add(96 + size, 6, 1, 0, 0).exit().passes("of the PACKET");
            Asked.due("low", low, packet.known(6, 6, 0));
            Asked.due("high", greatest[size], packet.known(6, 6, 1));
            FilterGuard stack = new Asked.Row().move(0, 0).add(106, 10, 0, -8, 0).add(106, 10, 0, -4, 0)
                .add(96 + size, 6, 10, -8, 0).exit().passes("of DATA");
            Asked.due("low", low, stack.known(4, 6, 0));
            Asked.due("high", greatest[size], stack.known(4, 6, 1));
            FilterGuard held = new Asked.Row().move(0, 0).add(107, 10, 0, -8, 3).add(96 + size, 6, 10, -8, 0).exit()
                .passes("of what's HELD");
            Asked.due("low", size == 3 ? 3 : 0, held.known(3, 6, 0));
            Asked.due("high", size == 3 ? 3 : greatest[size], held.known(3, 6, 1));
            FilterGuard value = new Asked.Row().map(1, 8, 1).add(104, 10, 0, -1, 0).copy(2, 10).add(17, 2, 0, 0, -1)
                .add(114, 1, 0, 0, 0).call(1).add(82, 0, 0, 1, 0).exit().add(96 + size, 6, 0, 0, 0).move(0, 0).exit()
                .passes("of a value");
            Asked.due("low", low, value.known(8, 6, 0));
            Asked.due("high", greatest[size], value.known(8, 6, 1));
        }
    }

    private static void calls() {
        Asked.says("CALLS 2, 3: 0 .. 1; 4: 0; 5: 0 .. 2^32 - 1.");
        long[] high = {1, 1, 0, LOW_32};
        for (int call = 2; call <= 5; call++) {
            Asked.Row row = new Asked.Row().map(1, 1, 1).add(104, 10, 0, -1, 0).copy(2, 10).add(17, 2, 0, 0, -1)
                .copy(3, 2);
            if (call == 4) {
                row.move(1, 5);
            } else {
                row.add(114, 1, 0, 0, 0);
            }
            FilterGuard guard = row.call(call).exit().passes("CALL " + call);
            Asked.due("low of " + call, 0, guard.known(6, 0, 0));
            Asked.due("high of " + call, high[call - 2], guard.known(6, 0, 1));
        }
    }
}

/** SORTS, sentence by sentence: what a run makes of the numbers at every edge that is named. */
public final class EdgesOfSortsTest {
    private static final long LEAST = Asked.LEAST;
    private static final long GREATEST = Asked.GREATEST;
    private static final long LOW_32 = Asked.LOW_32;
    private static final int LEAST_INT = Integer.MIN_VALUE;
    private static final int GREATEST_INT = Integer.MAX_VALUE;

    public static void main(String[] args) {
        immAsLong();
        moveAndNeg();
        wrapping();
        dividing();
        bits();
        shifting();
        narrow();
        narrowShifts();
        narrowSignedRight();
        narrowDividing();
        going();
        equal();
        withoutSign();
        withSign();
        anyBit();
        conditionsWithImm();
        jumps();
        loads();
        stores();
        storesOfImm();
        exits();
        mapNames();
        begins();
        Asked.end();
    }

    private static Asked.Row row() {
        return new Asked.Row();
    }

    /** Registers 6 and 7 are two eights of the PACKET: nothing is KNOWN of them. */
    private static Asked.Row twoOfPacket() {
        return row().copy(8, 1).add(17, 8, 0, 0, 16).move(0, 0).add(68, 8, 2, 1, 0).exit()
            .add(99, 6, 1, 0, 0).add(99, 7, 1, 8, 0);
    }

    private static void feed(FilterGuard guard, long x, long y) {
        guard.feed(Integer.reverseBytes((int) x), Integer.reverseBytes((int) (x >> 32)),
            Integer.reverseBytes((int) y), Integer.reverseBytes((int) (y >> 32)), 0);
    }

    /** x, sort, y: the outcome of CONSTS, of which it is FORETOLD, and of numbers from the PACKET. */
    private static void does(int sort, long x, long y, long due) {
        String what = x + " sort " + sort + " " + y;
        Asked.Row sure = row().constant(6, x).constant(7, y).add(sort, 6, 7, 0, 0).copy(0, 6).exit();
        FilterGuard consts = sure.runs(what, due);
        Asked.due(what + " foretold", due, consts.known(sure.size() - 1, 0, 0));
        Asked.due(what + " foretold", due, consts.known(sure.size() - 1, 0, 1));
        FilterGuard fed = twoOfPacket().add(sort, 6, 7, 0, 0).copy(0, 6).exit().passes(what);
        feed(fed, x, y);
        Asked.due(what + " of the PACKET", due, fed.run());
        Asked.due(what + " of the PACKET: strays", 0, fed.count(9));
    }

    /** Likewise with imm. */
    private static void doesImm(int sort, long x, int imm, long due) {
        String what = x + " sort " + sort + " imm " + imm;
        row().constant(6, x).add(sort, 6, 0, 0, imm).copy(0, 6).exit().runs(what, due);
        FilterGuard fed = twoOfPacket().add(sort, 6, 0, 0, imm).copy(0, 6).exit().passes(what);
        feed(fed, x, 0);
        Asked.due(what + " of the PACKET", due, fed.run());
        Asked.due(what + " of the PACKET: strays", 0, fed.count(9));
    }

    private static void immAsLong() {
        Asked.says("with 16 more (SORTS 16 .. 28), imm as a long.");
        doesImm(16, 5, -1, -1);
        doesImm(16, 5, LEAST_INT, -2147483648L);
        doesImm(16, 5, GREATEST_INT, 2147483647L);
        doesImm(17, 5, -1, 4);
        doesImm(17, 5, LEAST_INT, -2147483643L);
        doesImm(18, 5, -1, 6);
        doesImm(18, 0, LEAST_INT, 2147483648L);
        doesImm(19, 5, -1, -5);
        doesImm(20, -1, -1, 1);
        doesImm(20, -2, -1, 0);
        doesImm(20, GREATEST, -1, 0);
        doesImm(21, -1, -1, 0);
        doesImm(21, 7, -1, 7);
        doesImm(22, LEAST, -1, LEAST);
        doesImm(22, -1, LEAST_INT, -2147483648L);
        doesImm(23, 0, -1, -1);
        doesImm(24, LEAST, -1, GREATEST);
        doesImm(25, 1, -1, LEAST);
        doesImm(26, -1, -1, 1);
        doesImm(27, LEAST, -1, -1);
        doesImm(28, 5, 77, -5);
    }

    private static void moveAndNeg() {
        Asked.says("(MOVE: B; NEG: 0 - dst.)");
        does(0, 5, 7, 7);
        does(0, 5, LEAST, LEAST);
        doesImm(16, LEAST, 0, 0);
        does(12, 5, 7, -5);
        does(12, 0, 7, 0);
        does(12, -1, 7, 1);
        does(12, GREATEST, 7, -GREATEST);
        does(12, LEAST, 7, LEAST);
        row().move(6, 9).add(12, 6, 7, 0, 0).copy(0, 6).exit().runs("NEG: src isn't asked for", -9);
        row().move(6, 9).add(12, 6, 10, 0, 0).copy(0, 6).exit().runs("NEG: src isn't asked for", -9);
    }

    private static void wrapping() {
        Asked.says("All wrap;");
        does(1, GREATEST, 1, LEAST);
        does(1, LEAST, -1, GREATEST);
        does(1, GREATEST - 1, 1, GREATEST);
        does(1, GREATEST, GREATEST, -2);
        does(1, LEAST, LEAST, 0);
        does(2, LEAST, 1, GREATEST);
        does(2, GREATEST, -1, LEAST);
        does(2, 0, LEAST, LEAST);
        does(2, -1, LEAST, GREATEST);
        does(3, GREATEST, 2, -2);
        does(3, LEAST, -1, LEAST);
        does(3, LEAST, 2, 0);
        does(3, 1L << 32, 1L << 31, LEAST);
        does(3, 1L << 32, 1L << 32, 0);
        does(3, -1, -1, 1);
        does(12, LEAST, 0, LEAST);
        does(9, LEAST, 1, 0);
        does(9, -1, 63, LEAST);
    }

    private static void dividing() {
        Asked.says("DIV, MOD without sign, by 0: 0, and dst;");
        for (long x : new long[] {0, 1, 7, GREATEST, LEAST, -1}) {
            does(4, x, 0, 0);
            does(5, x, 0, x);
            does(4, x, 1, x);
            does(5, x, 1, 0);
        }
        does(4, -1, 2, GREATEST);
        does(5, -1, 2, 1);
        does(4, -1, 10, 1844674407370955161L);
        does(5, -1, 10, 5);
        does(4, LEAST, 3, 3074457345618258602L);
        does(5, LEAST, 3, 2);
        does(4, LEAST, -1, 0);
        does(5, LEAST, -1, LEAST);
        does(4, -1, LEAST, 1);
        does(5, -1, LEAST, GREATEST);
        does(4, -1, -1, 1);
        does(5, -1, -1, 0);
        does(4, -2, -1, 0);
        does(5, -2, -1, -2);
        does(4, -1, -2, 1);
        does(5, -1, -2, 1);
        does(4, GREATEST, LEAST, 0);
        does(5, GREATEST, LEAST, GREATEST);
        does(4, LEAST, GREATEST, 1);
        does(5, LEAST, GREATEST, 1);
        does(4, -2, GREATEST, 2);
        does(5, -2, GREATEST, 0);
        does(4, -1, GREATEST, 2);
        does(5, -1, GREATEST, 1);
        does(4, 6, 7, 0);
        does(4, 7, 7, 1);
        does(4, 13, 7, 1);
        does(4, 14, 7, 2);
        does(5, 13, 7, 6);
        does(5, 14, 7, 0);
    }

    private static void bits() {
        Asked.says("6 AND, 7 OR, 8 XOR");
        does(6, 12, 10, 8);
        does(7, 12, 10, 14);
        does(8, 12, 10, 6);
        does(6, LEAST, -1, LEAST);
        does(7, LEAST, GREATEST, -1);
        does(8, -1, LEAST, GREATEST);
    }

    private static void shifting() {
        Asked.says("shifts by B's lowest 6 bits.");
        does(9, 1, 0, 1);
        does(9, 1, 63, LEAST);
        does(9, 1, 64, 1);
        does(9, 1, 65, 2);
        does(9, 1, 127, LEAST);
        does(9, 1, -1, LEAST);
        does(9, 1, LEAST, 1);
        does(9, 3, 1L << 32 | 2, 12);
        does(10, -1, 0, -1);
        does(10, -1, 1, GREATEST);
        does(10, -1, 63, 1);
        does(10, -1, 64, -1);
        does(10, -1, 65, GREATEST);
        does(10, LEAST, -1, 1);
        does(11, LEAST, 0, LEAST);
        does(11, LEAST, 63, -1);
        does(11, LEAST, 64, LEAST);
        does(11, LEAST, 65, LEAST / 2);
        does(11, GREATEST, 62, 1);
        does(11, GREATEST, 63, 0);
        does(11, -1, -1, -1);
        doesImm(25, 1, 64, 1);
        doesImm(26, -1, 127, 1);
        doesImm(27, -2, 65, -1);
    }

    private static void narrow() {
        Asked.says("32 more (32 .. 60): of both the lowest 32 bits without sign");
        does(32, 5, -1, LOW_32);
        does(32, 5, 1L << 32, 0);
        doesImm(48, 5, -1, LOW_32);
        doesImm(48, -1, LEAST_INT, 2147483648L);
        does(33, LOW_32, 1, 0);
        does(33, 1L << 32 | 5, 1L << 33 | 6, 11);
        doesImm(49, LOW_32, -1, LOW_32 - 1);
        does(34, 0, 1, LOW_32);
        does(34, 1L << 32, 0, 0);
        doesImm(50, 5, -1, 6);
        does(35, LOW_32, LOW_32, 1);
        does(35, 65536, 65536, 0);
        does(35, 1L << 32 | 3, 7, 21);
        does(38, -1, -1, LOW_32);
        does(39, 1L << 40, 0, 0);
        does(39, LEAST, -1, LOW_32);
        does(40, -1, 0, LOW_32);
        does(40, -1, -1, 0);
        does(44, 1, 0, LOW_32);
        does(44, 0, 0, 0);
        does(44, 1L << 32, 0, 0);
        does(44, 2147483648L, 0, 2147483648L);
        doesImm(60, -1, 9, 1);
        doesImm(60, LOW_32, 9, 1);
    }

    private static void narrowDividing() {
        Asked.says("DIV, MOD without sign, by 0: 0, and dst;");
        does(36, -1, 2, 2147483647L);
        does(37, -1, 2, 1);
        does(36, -1, -1, 1);
        does(37, -1, -1, 0);
        does(36, -1, 0, 0);
        does(37, -1, 0, LOW_32);
        does(36, 5, 1L << 32, 0);
        does(37, 5, 1L << 32, 5);
        does(37, 1L << 32 | 5, 1L << 33, 5);
        does(36, 1L << 32, 1, 0);
        doesImm(52, -1, -1, 1);
        doesImm(53, 7, -1, 7);
        doesImm(52, 7, 0, 0);
        doesImm(53, -7, 0, LOW_32 - 6);
    }

    private static void narrowShifts() {
        Asked.says("shifts by 5 bits, the outcome cut to 32 bits, without sign.");
        does(41, 1, 31, 2147483648L);
        does(41, 1, 32, 1);
        does(41, 1, 33, 2);
        does(41, 2, 31, 0);
        does(41, 1, -1, 2147483648L);
        does(41, -1, 0, LOW_32);
        does(42, -1, 31, 1);
        does(42, -1, 32, LOW_32);
        does(42, -1, 33, 2147483647L);
        does(42, 1L << 32, 1, 0);
        doesImm(57, 3, 63, 2147483648L);
        doesImm(58, -1, 63, 1);
    }

    private static void narrowSignedRight() {
        Asked.says("(SIGNED RIGHT, with sign)");
        does(43, 2147483648L, 31, LOW_32);
        does(43, 2147483648L, 1, 0xC0000000L);
        does(43, 2147483648L, 32, 2147483648L);
        does(43, 2147483648L, 33, 0xC0000000L);
        does(43, 2147483647L, 30, 1);
        does(43, 2147483647L, 31, 0);
        does(43, LEAST, 1, 0);
        does(43, 1L << 32 | 4, 1, 2);
        does(43, -1, 5, LOW_32);
        doesImm(59, -8, 1, LOW_32 - 3);
        doesImm(59, -8, 32, LOW_32 - 7);
    }

    private static void going() {
        Asked.says("64 GO: on to number (its own + 1 + off).");
        row().move(0, 1).add(64, 0, 0, 0, 0).exit().runs("off 0: the next", 1);
        row().move(0, 1).add(64, 0, 0, 1, 0).move(0, 2).exit().runs("off 1 leaves one out", 1);
        row().move(0, 1).add(64, 0, 0, -1, 0).exit().fails("off -1 is itself", 8, 1);
        row().add(64, 0, 0, 2, 0).move(0, 4).exit().add(64, 0, 0, -3, 0).runs("off -3 leads back", 4);
        FilterGuard first = row().move(0, 1).exit().add(64, 0, 0, -3, 0).passes("to number 0");
        Asked.due("which is never gone", 0, first.known(2, 0, 3));
    }

    /** Whether dst's long is so to B's: of CONSTS, and of numbers from the PACKET. */
    private static void is(int sort, long x, long y, boolean due) {
        String what = x + " condition " + sort + " " + y;
        row().constant(6, x).constant(7, y).move(0, 1).add(sort, 6, 7, 1, 0).move(0, 0).exit().runs(what, due ? 1 : 0);
        FilterGuard fed = twoOfPacket().move(0, 1).add(sort, 6, 7, 1, 0).move(0, 0).exit().passes(what);
        feed(fed, x, y);
        Asked.due(what + " of the PACKET", due ? 1 : 0, fed.run());
        if (y == (int) y) {
            row().constant(6, x).move(0, 1).add(sort + 16, 6, 0, 1, (int) y).move(0, 0).exit()
                .runs(what + ", imm", due ? 1 : 0);
            FilterGuard imm = twoOfPacket().move(0, 1).add(sort + 16, 6, 0, 1, (int) y).move(0, 0).exit().passes(what);
            feed(imm, x, 0);
            Asked.due(what + " of the PACKET, imm", due ? 1 : 0, imm.run());
        }
    }

    private static void equal() {
        Asked.says("65 =, 66 <>");
        for (long x : new long[] {0, -1, LEAST, GREATEST}) {
            is(65, x, x, true);
            is(66, x, x, false);
            is(65, x, x + 1, false);
            is(66, x, x + 1, true);
            is(65, x, x ^ LEAST, false);
            is(66, x, x ^ LEAST, true);
        }
    }

    /** The sorts <, <=, >, >= from the first one on, of two that are in this order, and of equal ones. */
    private static void ordered(int first, long lesser, long greater) {
        is(first, lesser, greater, true);
        is(first + 1, lesser, greater, true);
        is(first + 2, lesser, greater, false);
        is(first + 3, lesser, greater, false);
        is(first, greater, lesser, false);
        is(first + 1, greater, lesser, false);
        is(first + 2, greater, lesser, true);
        is(first + 3, greater, lesser, true);
        is(first, lesser, lesser, false);
        is(first + 1, lesser, lesser, true);
        is(first + 2, lesser, lesser, false);
        is(first + 3, lesser, lesser, true);
    }

    private static void withoutSign() {
        Asked.says("67 <, 68 <=, 69 >, 70 >= (without sign)");
        ordered(67, 0, 1);
        ordered(67, 0, -1);
        ordered(67, GREATEST, LEAST);
        ordered(67, -2, -1);
        ordered(67, LEAST, -1);
        ordered(67, GREATEST - 1, GREATEST);
    }

    private static void withSign() {
        Asked.says("71 <, 72 <=, 73 >, 74 >= (with sign)");
        ordered(71, 0, 1);
        ordered(71, -1, 0);
        ordered(71, LEAST, GREATEST);
        ordered(71, -2, -1);
        ordered(71, LEAST, LEAST + 1);
        ordered(71, GREATEST - 1, GREATEST);
    }

    private static void anyBit() {
        Asked.says("75 (dst AND B isn't 0)");
        is(75, 0, -1, false);
        is(75, 1, 1, true);
        is(75, 1, 2, false);
        is(75, LEAST, -1, true);
        is(75, LEAST, GREATEST, false);
        is(75, LEAST, LEAST, true);
        is(75, 1L << 32, LOW_32, false);
    }

    private static void conditionsWithImm() {
        Asked.says("(src, or imm with 16 more: 81 .. 91)");
        is(67, GREATEST, -1, true);
        is(69, -1, LEAST_INT, true);
        is(71, LEAST, LEAST_INT, true);
        is(65, 2147483648L, LEAST_INT, false);
        is(65, -2147483648L, LEAST_INT, true);
        is(75, 1L << 63, LEAST_INT, true);
        is(75, 1L << 30, LEAST_INT, false);
    }

    private static void jumps() {
        Asked.says("as GO; else on to the next one.");
        row().move(0, 7).add(81, 0, 0, 0, 7).exit().runs("off 0", 7);
        row().move(0, 7).add(81, 0, 0, 1, 7).move(0, 8).exit().runs("so: off 1", 7);
        row().move(0, 7).add(81, 0, 0, 1, 6).move(0, 8).exit().runs("not so: the next", 8);
        row().move(0, 7).add(18, 0, 0, 0, 1).add(82, 0, 0, -2, 3).exit().runs("back until it isn't so", 3);
        row().move(0, 7).add(81, 0, 0, -1, 7).exit().fails("off -1 is itself", 8, 1);
    }

    private static void loads() {
        Asked.says("96 .. 99 LOAD: dst is the 1, 2, 4, 8 bytes (without sign) at src + off.");
        long[] due = {0xF8, 0xF7F8, 0xF5F6F7F8L, 0xF1F2F3F4F5F6F7F8L};
        for (int size = 0; size < 4; size++) {
            row().constant(6, 0xF1F2F3F4F5F6F7F8L).add(103, 10, 6, -8, 0).add(96 + size, 0, 10, -8, 0).exit()
                .runs("LOAD " + size, due[size]);
            row().constant(6, 0xF1F2F3F4F5F6F7F8L).add(103, 10, 6, -16, 0).copy(7, 10).add(17, 7, 0, 0, -20)
                .add(96 + size, 0, 7, 4, 0).exit().runs("LOAD " + size + " at src + off", due[size]);
        }
    }

    private static void stores() {
        Asked.says("100 .. 103 STORE: the lowest such bytes of src to dst + off.");
        long[] due = {0x11111111111111F8L, 0x111111111111F7F8L, 0x11111111F5F6F7F8L, 0xF1F2F3F4F5F6F7F8L};
        for (int size = 0; size < 4; size++) {
            row().constant(6, 0xF1F2F3F4F5F6F7F8L).constant(7, 0x1111111111111111L).add(103, 10, 7, -8, 0)
                .add(100 + size, 10, 6, -8, 0).add(99, 0, 10, -8, 0).exit().runs("STORE " + size, due[size]);
        }
        row().move(6, -1).add(107, 10, 0, -8, 0).add(100, 10, 6, -1, 0).add(99, 0, 10, -8, 0).exit()
            .runs("STORE of the last byte", 0xFFL << 56);
    }

    private static void storesOfImm() {
        Asked.says("104 .. 107: those of imm (as a long) likewise.");
        long[] due = {0x1FE, 0xFFFEL, 0xFFFFFFFEL, -2};
        for (int size = 0; size < 4; size++) {
            row().add(107, 10, 0, -8, 0x1FF).add(104 + size, 10, 0, -8, -2).add(99, 0, 10, -8, 0).exit()
                .runs("STORE of imm " + size, due[size]);
        }
        row().add(107, 10, 0, -8, LEAST_INT).add(99, 0, 10, -8, 0).exit().runs("the least imm", -2147483648L);
        row().add(107, 10, 0, -8, GREATEST_INT).add(99, 0, 10, -8, 0).exit().runs("the greatest imm", 2147483647L);
    }

    private static void exits() {
        Asked.says("113 EXIT, register 0 being the outcome");
        FilterGuard guard = row().move(0, 1).exit().move(0, 2).exit().runs("the first EXIT", 1);
        Asked.due("done", 2, guard.count(8));
        row().move(0, 1).add(113, 9, 0, 0, 0).runs("whatever dst is", 1);
    }

    private static void mapNames() {
        Asked.says("114: dst is MAP imm.");
        for (int named = 0; named < 2; named++) {
            FilterGuard guard = row().map(1, 1, 1).map(1, 1, 1).add(104, 10, 0, -1, 7).copy(2, 10).add(17, 2, 0, 0, -1)
                .copy(3, 2).add(114, 1, 0, 0, named).call(2).exit().runs("MAP " + named, 0);
            Asked.due("it got the key", 1, guard.place(named, 0, -1));
            Asked.due("the other one didn't", 0, guard.place(1 - named, 0, -1));
        }
    }

    private static void begins() {
        Asked.says("A run begins at 0 with register 1 the PACKET's begin, 2 its end, 10 the STACK's end.");
        Asked.Row row = row().copy(7, 1).move(0, 1).add(70, 7, 2, 2, 0).add(17, 0, 0, 0, 1).add(96, 6, 1, 0, 0).exit();
        FilterGuard guard = row.passes("begin and end");
        Asked.due("an empty PACKET: its begin is its end", 1, guard.run());
        guard.feed(9, 0, 0, 0, 0);
        Asked.due("it isn't any more", 2, guard.run());
        FilterGuard exact = row().copy(7, 1).add(17, 7, 0, 0, 20).move(0, 1).add(68, 7, 2, 1, 0).move(0, 2).exit()
            .passes("20 bytes");
        exact.feed(0, 0, 0, 0, 0);
        Asked.due("20 are there", 1, exact.run());
        exact.end(1);
        Asked.due("19 are there", 2, exact.run());
        for (int r : new int[] {0, 3, 4, 5, 6, 7, 8, 9}) {
            row().copy(0, r).exit().fails("nothing else is there: register " + r, 2, 0);
        }
    }
}

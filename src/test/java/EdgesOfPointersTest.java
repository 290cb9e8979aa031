/** POINTERS, sentence by sentence: what may be added, how far, and what a condition tells of them. */
public final class EdgesOfPointersTest {
    public static void main(String[] args) {
        moves();
        stackSums();
        packetSums();
        valueSums();
        numberFirst();
        differences();
        otherDifferences();
        constsForStack();
        othersAreNotMoved();
        farthest();
        farthestOfRanges();
        sumsThatAreNoLongs();
        maybeEqual();
        maybeUnequal();
        allWithItsTag();
        othersKeepTheirTag();
        movedToItself();
        maybeAndOthers();
        packetBelowEnd();
        packetNotAboveEnd();
        endFirst();
        lowCounts();
        ifThatIsMore();
        otherConditions();
        exits();
        Asked.end();
    }

    private static Asked.Row row() {
        return new Asked.Row();
    }

    /** Register 6 is a VALUE of so many bytes, all 5; register 9 is STACK - 1, where the key is. */
    private static Asked.Row value(int bytes) {
        Asked.Row row = row().map(1, bytes, 1).add(104, 10, 0, -1, 1).copy(9, 10).add(17, 9, 0, 0, -1);
        for (int b = 0; b < bytes; b++) {
            row.add(104, 10, 0, -64 + b, 5);
        }
        return row.copy(2, 9).copy(3, 10).add(17, 3, 0, 0, -64).add(114, 1, 0, 0, 0).call(2)
            .copy(2, 9).add(114, 1, 0, 0, 0).call(1).add(82, 0, 0, 1, 0).exit().copy(6, 0).move(0, 0);
    }

    /** Register 0 is a MAYBE of a MAP with values of 8 bytes; register 9 is STACK - 1, where the key is. */
    private static Asked.Row look() {
        return row().map(1, 8, 2).add(104, 10, 0, -1, 1).copy(9, 10).add(17, 9, 0, 0, -1)
            .copy(2, 9).add(114, 1, 0, 0, 0).call(1);
    }

    /** The PACKET is KNOWN to have so many bytes; 7 is PACKET + that. */
    private static Asked.Row packet(int bytes) {
        return row().copy(7, 1).add(17, 7, 0, 0, bytes).move(0, 0).add(68, 7, 2, 1, 0).exit();
    }

    private static void moves() {
        Asked.says("POINTERS: 0 MOVES all.");
        row().copy(6, 1).copy(7, 2).add(69, 6, 7, 0, 0).move(0, 1).exit().runs("PACKET and END", 1);
        row().copy(6, 10).add(104, 6, 0, -1, 5).add(96, 0, 10, -1, 0).exit().runs("STACK", 5);
        value(1).copy(7, 6).add(96, 0, 7, 0, 0).exit().runs("VALUE", 5);
        look().copy(7, 0).add(81, 7, 0, 0, 0).move(0, 1).exit().runs("MAYBE", 1);
        row().map(1, 1, 1).add(104, 10, 0, -1, 0).copy(2, 10).add(17, 2, 0, 0, -1).add(114, 6, 0, 0, 0).copy(1, 6)
            .call(3).exit().runs("MAP", 1);
        packet(9).add(17, 7, 0, 0, -4).copy(8, 7).add(98, 0, 8, 0, 0).exit().passes("with its RANGE");
        packet(9).add(17, 7, 0, 0, -4).copy(8, 7).add(98, 0, 8, 1, 0).exit().fails("with its RANGE", 4, 7);
    }

    private static void stackSums() {
        Asked.says("ADD: STACK, PACKET, VALUE + NUMBER, or NUMBER + one;");
        row().copy(6, 10).add(17, 6, 0, 0, -8).add(104, 6, 0, 7, 5).add(96, 0, 10, -1, 0).exit().runs("STACK + imm", 5);
        row().copy(6, 10).move(7, -8).add(1, 6, 7, 0, 0).add(104, 6, 0, 7, 5).add(96, 0, 10, -1, 0).exit()
            .runs("STACK + CONST", 5);
        row().copy(6, 10).add(17, 6, 0, 0, 0).add(104, 6, 0, -1, 5).add(96, 0, 6, -1, 0).exit().runs("STACK + 0", 5);
    }

    private static void packetSums() {
        Asked.says("ADD: STACK, PACKET, VALUE + NUMBER, or NUMBER + one;");
        packet(9).copy(6, 1).add(17, 6, 0, 0, 5).add(98, 0, 6, 0, 0).exit().passes("PACKET + imm");
        packet(9).copy(6, 1).add(17, 6, 0, 0, 6).add(98, 0, 6, 0, 0).exit().fails("PACKET + imm", 4, 7);
        // 0 .. 3, then 1 .. 4.
        Asked.Row range = packet(9).copy(6, 1).add(96, 8, 1, 0, 0).add(22, 8, 0, 0, 3).add(1, 6, 8, 0, 0);
        int at = range.size();
        range.add(98, 3, 6, 2, 0).exit().passes("PACKET + RANGE, its high");
        range.steps.get(at)[3] = 3;
        range.fails("PACKET + RANGE, its high", 4, at);
        range.steps.get(at)[3] = 0;
        range.passes("PACKET + RANGE, its low");
        range.steps.get(at)[3] = -1;
        range.fails("PACKET + RANGE, its low", 4, at);
    }

    private static void valueSums() {
        Asked.says("ADD: STACK, PACKET, VALUE + NUMBER, or NUMBER + one;");
        int at = value(10).size();
        value(10).add(17, 6, 0, 0, 9).add(96, 0, 6, 0, 0).exit().runs("VALUE + imm", 5);
        value(10).add(17, 6, 0, 0, 10).add(96, 0, 6, 0, 0).exit().fails("VALUE + imm", 4, at + 1);
        value(10).call(5).add(22, 0, 0, 0, 7).add(1, 6, 0, 0, 0).add(97, 0, 6, 1, 0).exit().runs("VALUE + RANGE", 0x0505);
        value(10).call(5).add(22, 0, 0, 0, 7).add(1, 6, 0, 0, 0).add(97, 0, 6, 2, 0).exit()
            .fails("VALUE + RANGE", 4, at + 3);
    }

    private static void numberFirst() {
        Asked.says("ADD: STACK, PACKET, VALUE + NUMBER, or NUMBER + one;");
        row().move(6, -8).add(1, 6, 10, 0, 0).add(104, 6, 0, 7, 5).add(96, 0, 10, -1, 0).exit().runs("CONST + STACK", 5);
        packet(9).move(6, 5).add(1, 6, 1, 0, 0).add(98, 0, 6, 0, 0).exit().passes("NUMBER + PACKET");
        packet(9).move(6, 6).add(1, 6, 1, 0, 0).add(98, 0, 6, 0, 0).exit().fails("NUMBER + PACKET", 4, 7);
        value(10).call(5).add(22, 0, 0, 0, 7).add(1, 0, 6, 0, 0).add(97, 0, 0, 1, 0).exit().runs("NUMBER + VALUE", 0x0505);
        row().move(6, 1).add(2, 6, 10, 0, 0).exit().fails("but not NUMBER - STACK", 3, 1);
        row().move(6, 1).add(2, 6, 1, 0, 0).exit().fails("but not NUMBER - PACKET", 3, 1);
        value(10).move(7, 1).add(2, 7, 6, 0, 0).exit().fails("but not NUMBER - VALUE", 3, value(10).size() + 1);
    }

    private static void differences() {
        Asked.says("SUB: one - NUMBER (STACK: just CONSTS): RANGES as above;");
        row().copy(6, 10).add(18, 6, 0, 0, 8).add(104, 6, 0, 7, 5).add(96, 0, 10, -1, 0).exit().runs("STACK - imm", 5);
        row().copy(6, 10).move(7, 8).add(2, 6, 7, 0, 0).add(104, 6, 0, 7, 5).add(96, 0, 10, -1, 0).exit()
            .runs("STACK - CONST", 5);
        packet(9).add(18, 7, 0, 0, 4).add(98, 0, 7, 0, 0).exit().passes("PACKET - imm");
        packet(9).add(18, 7, 0, 0, 3).add(98, 0, 7, 0, 0).exit().fails("PACKET - imm", 4, 6);
        // 9 - (0 .. 3) is 6 .. 9.
        Asked.Row range = packet(9).add(96, 8, 1, 0, 0).add(22, 8, 0, 0, 3).add(2, 7, 8, 0, 0);
        int at = range.size();
        range.add(96, 3, 7, -1, 0).exit().passes("PACKET - RANGE, its high");
        range.steps.get(at)[3] = 0;
        range.fails("PACKET - RANGE, its high", 4, at);
        range.steps.get(at)[3] = -6;
        range.passes("PACKET - RANGE, its low");
        range.steps.get(at)[3] = -7;
        range.fails("PACKET - RANGE, its low", 4, at);
        value(10).add(17, 6, 0, 0, 9).add(18, 6, 0, 0, 9).add(96, 0, 6, 9, 0).exit().runs("VALUE - imm", 5);
    }

    private static void otherDifferences() {
        Asked.says("FAULT 3, as all others are.");
        row().copy(6, 1).add(1, 6, 1, 0, 0).exit().fails("PACKET + PACKET", 3, 1);
        row().copy(6, 1).add(2, 6, 1, 0, 0).exit().fails("PACKET - PACKET", 3, 1);
        row().copy(6, 2).add(2, 6, 1, 0, 0).exit().fails("END - PACKET", 3, 1);
        row().copy(6, 10).add(2, 6, 10, 0, 0).exit().fails("STACK - STACK", 3, 1);
        row().copy(6, 10).add(1, 6, 1, 0, 0).exit().fails("STACK + PACKET", 3, 1);
        row().copy(6, 1).add(49, 6, 0, 0, 0).exit().fails("ADD of 32 bits", 3, 1);
        row().copy(6, 1).add(50, 6, 0, 0, 0).exit().fails("SUB of 32 bits", 3, 1);
        row().move(6, 0).add(33, 6, 1, 0, 0).exit().fails("ADD of 32 bits, NUMBER + PACKET", 3, 1);
        for (int operation = 3; operation <= 12; operation++) {
            row().copy(6, 1).add(operation + 16, 6, 0, 0, 0).exit().fails("dst of " + (operation + 16), 3, 1);
        }
        for (int operation = 2; operation <= 11; operation++) {
            row().move(6, 1).add(operation, 6, 1, 0, 0).exit().fails("src of " + operation, 3, 1);
        }
    }

    private static void constsForStack() {
        Asked.says("(STACK: just CONSTS)");
        row().call(5).add(22, 0, 0, 0, 1).copy(6, 10).add(1, 6, 0, 0, 0).exit().fails("STACK + 0 .. 1", 3, 3);
        row().call(5).add(22, 0, 0, 0, 1).copy(6, 10).add(2, 6, 0, 0, 0).exit().fails("STACK - 0 .. 1", 3, 3);
        row().call(5).add(22, 0, 0, 0, 1).add(1, 0, 10, 0, 0).exit().fails("0 .. 1 + STACK", 3, 2);
        row().call(5).add(22, 0, 0, 0, 0).copy(6, 10).add(1, 6, 0, 0, 0).add(104, 6, 0, -1, 5).exit()
            .runs("STACK + what is 0 alone", 0);
    }

    private static void othersAreNotMoved() {
        Asked.says("FAULT 3, as all others are.");
        row().copy(6, 2).add(17, 6, 0, 0, 0).exit().fails("END + 0", 3, 1);
        row().copy(6, 2).add(18, 6, 0, 0, 0).exit().fails("END - 0", 3, 1);
        row().move(6, 0).add(1, 6, 2, 0, 0).exit().fails("0 + END", 3, 1);
        row().map(1, 1, 1).add(114, 6, 0, 0, 0).add(17, 6, 0, 0, 0).exit().fails("MAP + 0", 3, 1);
        row().map(1, 1, 1).add(114, 6, 0, 0, 0).add(18, 6, 0, 0, 0).exit().fails("MAP - 0", 3, 1);
        look().add(17, 0, 0, 0, 0).exit().fails("MAYBE + 0", 3, 6);
        look().add(18, 0, 0, 0, 0).exit().fails("MAYBE - 0", 3, 6);
        look().move(6, 0).add(1, 6, 0, 0, 0).exit().fails("0 + MAYBE", 3, 7);
    }

    private static void farthest() {
        Asked.says("outside of -4096 .. 4096: FAULT 3");
        Asked.Row value = value(8);
        for (int pointer : new int[] {1, 10, 6}) {
            for (int far : new int[] {4096, -4096, 4097, -4097, Integer.MAX_VALUE, Integer.MIN_VALUE}) {
                boolean in = far == 4096 || far == -4096;
                Asked.Row plus = row();
                plus.maps.addAll(value.maps);
                if (pointer == 6) {
                    plus.steps.addAll(value.steps);
                }
                int at = plus.size();
                plus.copy(8, pointer).add(17, 8, 0, 0, far).move(0, 1).exit();
                Asked.Row minus = row();
                minus.maps.addAll(value.maps);
                minus.steps.addAll(plus.steps);
                minus.steps.set(at + 1, new int[] {18, 8, 0, 0, far});
                Asked.Row first = row();
                first.maps.addAll(value.maps);
                first.steps.addAll(plus.steps);
                first.steps.set(at, new int[] {16, 8, 0, 0, far});
                first.steps.set(at + 1, new int[] {1, 8, pointer, 0, 0});
                for (Asked.Row each : new Asked.Row[] {plus, minus, first}) {
                    if (in) {
                        each.runs(pointer + " by " + far, 1);
                    } else {
                        each.fails(pointer + " by " + far, 3, at + 1);
                    }
                }
            }
        }
        row().copy(8, 1).add(17, 8, 0, 0, 4096).add(17, 8, 0, 0, 1).exit().fails("4096 + 1", 3, 2);
        row().copy(8, 1).add(17, 8, 0, 0, -4096).add(18, 8, 0, 0, 1).exit().fails("-4096 - 1", 3, 2);
        row().copy(8, 10).add(17, 8, 0, 0, 4096).add(18, 8, 0, 0, 4097).add(104, 8, 0, 0, 5).add(96, 0, 10, -1, 0)
            .exit().runs("there and back", 5);
        row().copy(8, 10).add(17, 8, 0, 0, 4096).add(18, 8, 0, 0, 8192).move(0, 1).exit().runs("from end to end", 1);
        row().copy(8, 10).add(17, 8, 0, 0, 4096).add(18, 8, 0, 0, 8193).exit().fails("from end to behind the end", 3, 2);
    }

    private static void farthestOfRanges() {
        Asked.says("outside of -4096 .. 4096: FAULT 3");
        int at = row().range(6, 0, 1).size() + 1;
        row().range(6, 0, 4096).copy(7, 1).add(1, 7, 6, 0, 0).move(0, 1).exit().runs("+ high", 1);
        row().range(6, 0, 4097).copy(7, 1).add(1, 7, 6, 0, 0).exit().fails("+ high", 3, at);
        row().range(6, -4096, 0).copy(7, 1).add(1, 7, 6, 0, 0).move(0, 1).exit().passes("+ low");
        row().range(6, -4097, 0).copy(7, 1).add(1, 7, 6, 0, 0).exit().fails("+ low", 3, at);
        row().range(6, 0, 4096).copy(7, 1).add(2, 7, 6, 0, 0).move(0, 1).exit().passes("- high");
        row().range(6, 0, 4097).copy(7, 1).add(2, 7, 6, 0, 0).exit().fails("- high", 3, at);
        row().range(6, -4096, 0).copy(7, 1).add(2, 7, 6, 0, 0).move(0, 1).exit().passes("- low");
        row().range(6, -4097, 0).copy(7, 1).add(2, 7, 6, 0, 0).exit().fails("- low", 3, at);
        row().range(6, -4096, 4096).add(1, 6, 1, 0, 0).move(0, 1).exit().passes("both ends");
        row().range(6, -4096, 4096).copy(7, 1).add(17, 7, 0, 0, 1).add(1, 7, 6, 0, 0).exit().fails("both ends + 1", 3, at + 1);
    }

    private static void sumsThatAreNoLongs() {
        Asked.says("outside of -4096 .. 4096: FAULT 3");
        row().constant(6, Asked.GREATEST).copy(7, 1).add(1, 7, 6, 0, 0).exit().fails("+ greatest", 3, 6);
        row().constant(6, Asked.LEAST).copy(7, 1).add(2, 7, 6, 0, 0).exit().fails("- least", 3, 6);
        row().constant(6, Asked.GREATEST).copy(7, 1).add(17, 7, 0, 0, 1).add(1, 7, 6, 0, 0).exit().fails("1 + greatest", 3, 7);
        row().constant(6, Asked.GREATEST).copy(7, 10).add(17, 7, 0, 0, 1).add(1, 7, 6, 0, 0).exit()
            .fails("STACK + 1 + greatest", 3, 7);
        row().constant(6, Asked.LEAST).copy(7, 10).add(2, 7, 6, 0, 0).exit().fails("STACK - least", 3, 6);
        row().all(6).copy(7, 1).add(1, 7, 6, 0, 0).exit().fails("+ ALL", 3, 4);
        row().all(6).copy(7, 1).add(2, 7, 6, 0, 0).exit().fails("- ALL", 3, 4);
    }

    private static void maybeEqual() {
        Asked.says("= and <> of a MAYBE and imm 0: it's VALUE + 0, or the NUMBER 0");
        look().add(81, 0, 0, 1, 0).add(99, 0, 0, 0, 0).exit().runs("=, next side: VALUE + 0", 0);
        look().add(81, 0, 0, 1, 0).add(96, 0, 0, 8, 0).exit().fails("=, next side: its length", 4, 7);
        look().add(81, 0, 0, 1, 0).add(96, 0, 0, -1, 0).exit().fails("=, next side: + 0", 4, 7);
        FilterGuard zero = look().add(81, 0, 0, 2, 0).move(0, 5).exit().exit().runs("=, other side: the NUMBER 0", 0);
        Asked.due("a NUMBER", 1, zero.known(9, 0, 2));
        Asked.due("low", 0, zero.known(9, 0, 0));
        Asked.due("high", 0, zero.known(9, 0, 1));
        Asked.due("no NUMBER on the next side", 0, zero.known(7, 0, 2));
        Asked.due("both sides are gone", 1, zero.known(7, 0, 3));
    }

    private static void maybeUnequal() {
        Asked.says("= and <> of a MAYBE and imm 0: it's VALUE + 0, or the NUMBER 0");
        FilterGuard zero = look().add(82, 0, 0, 1, 0).exit().add(99, 0, 0, 0, 0).exit().runs("<>", 0);
        Asked.due("next side: the NUMBER 0", 1, zero.known(7, 0, 2));
        Asked.due("low", 0, zero.known(7, 0, 0));
        Asked.due("high", 0, zero.known(7, 0, 1));
        Asked.due("other side: no NUMBER", 0, zero.known(8, 0, 2));
        look().add(82, 0, 0, 1, 0).exit().add(96, 0, 0, 8, 0).exit().fails("other side: its length", 4, 8);
        look().add(82, 0, 0, 1, 0).add(99, 0, 0, 0, 0).exit().fails("next side: no pointer", 3, 7);
    }

    private static void allWithItsTag() {
        Asked.says("as are all with its tag, wherever they're KNOWN;");
        look().copy(6, 0).copy(7, 0).add(81, 6, 0, 3, 0).add(99, 3, 0, 0, 0).add(99, 3, 7, 0, 0).add(99, 0, 6, 0, 0).exit()
            .runs("registers", 0);
        for (int c = -64; c <= -16; c += 8) {
            look().add(103, 10, 0, c, 0).add(81, 0, 0, 2, 0).add(99, 7, 10, c, 0).add(99, 0, 7, 0, 0).exit()
                .runs("HELD at " + c, 0);
        }
        FilterGuard zero = look().copy(6, 0).add(103, 10, 0, -16, 0).add(82, 0, 0, 2, 0).add(99, 7, 10, -16, 0).exit()
            .move(0, 0).exit().runs("the NUMBER 0", 0);
        look().add(107, 10, 0, -16, -1).add(103, 10, 0, -16, 0).add(82, 0, 0, 2, 0).add(98, 0, 10, -14, 0).exit()
            .move(0, 1).exit().runs("the bytes of the NUMBER 0 that's HELD", 0);
        Asked.due("a register", 1, zero.known(9, 6, 2));
        Asked.due("what was HELD", 1, zero.known(10, 7, 2));
        Asked.due("low", 0, zero.known(10, 7, 0));
        Asked.due("high", 0, zero.known(10, 7, 1));
    }

    private static void othersKeepTheirTag() {
        Asked.says("as are all with its tag, wherever they're KNOWN;");
        Asked.Row two = look().copy(6, 0).copy(2, 9).add(114, 1, 0, 0, 0).call(1).add(81, 0, 0, 2, 0);
        int at = two.size();
        two.add(99, 3, 6, 0, 0).add(99, 3, 0, 0, 0).move(0, 1).exit();
        two.fails("another LOOK's", 3, at);
        two.steps.remove(at);
        two.steps.get(at - 1)[3] = 1;
        two.runs("its own", 1);
        // One LOOK that is gone twice has two tags.
        row().map(1, 8, 2).add(104, 10, 0, -1, 1).move(8, 0).copy(2, 10).add(17, 2, 0, 0, -1).add(114, 1, 0, 0, 0).call(1)
            .add(82, 8, 0, 3, 0).copy(6, 0).move(8, 1).add(64, 0, 0, -8, 0)
            .add(81, 0, 0, 2, 0).add(99, 0, 6, 0, 0).exit().move(0, 0).exit().fails("the first of one LOOK's two", 3, 11);
        // What one side knows of a tag, the other one doesn't.
        look().copy(6, 0).call(5).copy(7, 0).add(91, 7, 0, 2, 1).add(81, 6, 0, 0, 0).exit().add(99, 0, 6, 0, 0).exit()
            .fails("on a side that waits", 3, 12);
        Asked.Row taken = look().copy(6, 0).copy(2, 9).add(114, 1, 0, 0, 0).call(1).copy(7, 0).call(5)
            .add(91, 0, 0, 1, 1).exit();
        int first = taken.size();
        taken.add(82, 7, 0, 2, 0).move(0, 0).exit().add(99, 0, 7, 0, 0).exit().passes("on a side that waited, its own");
        taken.steps.get(first + 3)[2] = 6;
        taken.fails("on a side that waited, another LOOK's", 3, first + 3);
    }

    /** A MOVE of a register to itself leaves all that's KNOWN of it, its tag too. */
    private static void movedToItself() {
        Asked.says("POINTERS: 0 MOVES all.");
        look().copy(0, 0).copy(6, 0).add(81, 6, 0, 2, 0).add(99, 3, 0, 0, 0).add(99, 0, 6, 0, 0).exit()
            .runs("MAYBE, and then a copy", 0);
        look().copy(6, 0).copy(0, 0).add(81, 6, 0, 2, 0).add(99, 3, 0, 0, 0).add(99, 0, 6, 0, 0).exit()
            .runs("a copy, and then MAYBE: the copy is asked", 0);
        look().copy(6, 0).copy(0, 0).add(81, 0, 0, 2, 0).add(99, 3, 6, 0, 0).add(99, 0, 0, 0, 0).exit()
            .runs("a copy, and then MAYBE: it is asked itself", 0);
        FilterGuard held = look().add(103, 10, 0, -16, 0).copy(0, 0).add(82, 0, 0, 2, 0).add(99, 7, 10, -16, 0).exit()
            .move(0, 0).exit().runs("HELD, and then MAYBE", 0);
        Asked.due("what was HELD is a NUMBER", 1, held.known(9, 7, 2) + held.known(10, 7, 2));
        // Two LOOKS' MAYBES, each moved to itself, are still two.
        Asked.Row two = look().copy(0, 0).copy(6, 0).copy(2, 9).add(114, 1, 0, 0, 0).call(1).copy(0, 0).add(81, 0, 0, 2, 0);
        two.add(99, 3, 6, 0, 0).move(0, 1).exit().fails("another LOOK's", 3, two.size() - 3);
        row().copy(1, 1).copy(2, 2).move(0, 1).add(69, 1, 2, 0, 0).exit().runs("PACKET and END", 1);
        row().copy(6, 10).add(17, 6, 0, 0, -8).copy(6, 6).add(104, 6, 0, 7, 5).add(96, 0, 10, -1, 0).exit().runs("STACK", 5);
        value(1).copy(6, 6).add(96, 0, 6, 0, 0).exit().runs("VALUE", 5);
        row().map(1, 1, 1).map(2, 1, 1).add(105, 10, 0, -2, 0).copy(2, 10).add(17, 2, 0, 0, -2).add(114, 1, 0, 0, 1)
            .copy(1, 1).call(3).exit().runs("MAP", 1);
        FilterGuard number = row().range(6, -3, 9).copy(6, 6).move(0, 0).exit().passes("NUMBER");
        Asked.due("low", -3, number.known(number.count(0) - 1, 6, 0));
        Asked.due("high", 9, number.known(number.count(0) - 1, 6, 1));
    }

    private static void maybeAndOthers() {
        Asked.says("other conditions with pointers: FAULT 3.");
        for (int imm : new int[] {1, -1, Integer.MIN_VALUE}) {
            look().add(81, 0, 0, 0, imm).exit().fails("= " + imm, 3, 6);
            look().add(82, 0, 0, 0, imm).exit().fails("<> " + imm, 3, 6);
        }
        for (int sort = 83; sort <= 91; sort++) {
            look().add(sort, 0, 0, 0, 0).exit().fails(sort + " of imm 0", 3, 6);
        }
        look().move(6, 0).add(65, 0, 6, 0, 0).exit().fails("= of a register that is 0", 3, 7);
        look().move(6, 0).add(65, 6, 0, 0, 0).exit().fails("a register that is 0 =", 3, 7);
        look().add(65, 0, 0, 0, 0).exit().fails("itself", 3, 6);
    }

    /** The longest LOAD of a byte that passes on a side is at known - 1; -1 stands for none. */
    private static void length(String what, int sort, int dst, int src, int low, int onNext, int onJump) {
        for (int more = 0; more <= 1; more++) {
            Asked.Row next = row().copy(7, 1).add(17, 7, 0, 0, low).move(0, 0).add(sort, dst, src, 1, 0)
                .add(96, 3, 1, onNext - 1 + more, 0).exit();
            Asked.Row jump = row().copy(7, 1).add(17, 7, 0, 0, low).move(0, 0).add(sort, dst, src, 1, 0)
                .exit().add(96, 3, 1, onJump - 1 + more, 0).exit();
            if (more == 0 && onNext > 0) {
                next.passes(what + ", next side");
            } else {
                next.fails(what + ", next side", 4, 4);
            }
            if (more == 0 && onJump > 0) {
                jump.passes(what + ", other side");
            } else {
                jump.fails(what + ", other side", 4, 5);
            }
        }
    }

    private static void packetBelowEnd() {
        Asked.says("on the side on which PACKET + low is below END, or not above it, LENGTH becomes low + 1, or low");
        for (int low : new int[] {0, 1, 5, 399, 400, 4096}) {
            length("PACKET < END at " + low, 67, 7, 2, low, 0, low + 1);
            length("PACKET >= END at " + low, 70, 7, 2, low, low + 1, 0);
        }
    }

    private static void packetNotAboveEnd() {
        Asked.says("on the side on which PACKET + low is below END, or not above it, LENGTH becomes low + 1, or low");
        for (int low : new int[] {0, 1, 5, 399, 400, 4096}) {
            length("PACKET <= END at " + low, 68, 7, 2, low, 0, low);
            length("PACKET > END at " + low, 69, 7, 2, low, low, 0);
        }
    }

    private static void endFirst() {
        Asked.says("< <= > >= without sign of PACKET and END (either way)");
        for (int low : new int[] {0, 1, 5, 4096}) {
            length("END > PACKET at " + low, 69, 2, 7, low, 0, low + 1);
            length("END <= PACKET at " + low, 68, 2, 7, low, low + 1, 0);
            length("END >= PACKET at " + low, 70, 2, 7, low, 0, low);
            length("END < PACKET at " + low, 67, 2, 7, low, low, 0);
        }
    }

    private static void lowCounts() {
        Asked.says("LENGTH becomes low + 1, or low, if that's more;");
        Asked.Row range = row().range(6, 3, 8).copy(7, 1).add(1, 7, 6, 0, 0).move(0, 0).add(68, 7, 2, 1, 0).exit();
        int at = range.size();
        range.add(96, 3, 1, 2, 0).exit().passes("low of a RANGE");
        range.steps.get(at)[3] = 3;
        range.fails("low of a RANGE", 4, at);
        range.steps.set(at, new int[] {96, 3, 7, -4, 0});
        range.fails("its pointer itself may be higher", 4, at);
    }

    private static void ifThatIsMore() {
        Asked.says("LENGTH becomes low + 1, or low, if that's more;");
        length("-1: not less than 0", 68, 7, 2, -1, 0, 0);
        length("-1: + 1", 67, 7, 2, -1, 0, 0);
        length("-4096", 67, 7, 2, -4096, 0, 0);
        Asked.Row less = packet(9).add(17, 7, 0, 0, -5).add(68, 7, 2, 1, 0).exit();
        int at = less.size();
        less.add(96, 3, 1, 8, 0).exit().passes("what was more stays");
        less.steps.get(at)[3] = 9;
        less.fails("what was more stays", 4, at);
        Asked.Row more = packet(9).add(17, 7, 0, 0, 1).add(68, 7, 2, 1, 0).exit();
        at = more.size();
        more.add(96, 3, 1, 9, 0).exit().passes("more comes");
        more.steps.get(at)[3] = 10;
        more.fails("more comes", 4, at);
        packet(9).add(17, 7, 0, 0, 1).add(68, 7, 2, 2, 0).add(96, 3, 1, 8, 0).exit().exit()
            .passes("on the other side it's as it was");
    }

    private static void otherConditions() {
        Asked.says("other conditions with pointers: FAULT 3.");
        for (int sort = 65; sort <= 91; sort++) {
            if (sort >= 76 && sort <= 80) {
                continue;
            }
            boolean length = sort >= 67 && sort <= 70;
            if (!length) {
                row().move(0, 0).add(sort, 1, 2, 0, 0).exit().fails("PACKET, END in " + sort, 3, 1);
                row().move(0, 0).add(sort, 2, 1, 0, 0).exit().fails("END, PACKET in " + sort, 3, 1);
            }
            row().move(0, 0).copy(6, 1).add(sort, 1, 6, 0, 0).exit().fails("PACKET, PACKET in " + sort, 3, 2);
            row().move(0, 0).copy(6, 2).add(sort, 2, 6, 0, 0).exit().fails("END, END in " + sort, 3, 2);
            row().move(0, 0).add(sort, 10, 2, 0, 0).exit().fails("STACK, END in " + sort, 3, 1);
            row().move(0, 0).add(sort, 10, 10, 0, 0).exit().fails("STACK, STACK in " + sort, 3, 1);
            row().move(0, 0).add(sort, 1, 0, 0, 0).exit().fails("PACKET, NUMBER in " + sort, 3, 1);
            row().map(1, 1, 1).move(0, 0).add(114, 6, 0, 0, 0).add(sort, 6, 6, 0, 0).exit().fails("MAP in " + sort, 3, 2);
            int at = value(8).size();
            value(8).add(sort, 6, 0, 0, 0).exit().fails("VALUE in " + sort, 3, at);
            if (sort <= 75) {
                row().move(0, 0).add(sort, 0, 1, 0, 0).exit().fails("NUMBER, PACKET in " + sort, 3, 1);
                row().move(0, 0).add(sort, 0, 2, 0, 0).exit().fails("NUMBER, END in " + sort, 3, 1);
            }
        }
    }

    private static void exits() {
        Asked.says("EXIT of a pointer: FAULT 3.");
        for (int pointer : new int[] {1, 2, 10}) {
            row().copy(0, pointer).exit().fails("register " + pointer, 3, 1);
        }
        look().exit().fails("MAYBE", 3, 6);
        value(1).copy(0, 6).exit().fails("VALUE", 3, value(1).size() + 1);
        row().map(1, 1, 1).add(114, 0, 0, 0, 0).exit().fails("MAP", 3, 1);
    }
}

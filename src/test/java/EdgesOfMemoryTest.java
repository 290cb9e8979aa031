/** MEMORY and FORETOLD, sentence by sentence: the last byte that is in, the first one that is out. */
public final class EdgesOfMemoryTest {
    public static void main(String[] args) {
        stackEnds();
        stackEndsByPointer();
        heldEights();
        heldAcross();
        nonePartly();
        pointersPartly();
        holding();
        holdingAcross();
        data();
        dataOverNumber();
        dataOverPointer();
        dataAcrossTwo();
        pointersElsewhere();
        packetEnds();
        packetRanges();
        valueEnds();
        valueOfEachMap();
        pointersInto();
        allOthers();
        keysAndValues();
        keysOfEachMap();
        keysOfHeldNumbers();
        foretold();
        foretoldOfNumbers();
        foretoldOfRuns();
        Asked.end();
    }

    private static Asked.Row row() {
        return new Asked.Row();
    }

    private static void stackEnds() {
        Asked.says("STACK + c + off: from -64 on, and its end not above 0, or FAULT 4.");
        for (int size = 0; size < 4; size++) {
            int bytes = 1 << size;
            row().add(104 + size, 10, 0, -64, 7).add(96, 0, 10, -64, 0).exit().runs("first " + bytes, 7);
            row().add(104 + size, 10, 0, -65, 7).move(0, 0).exit().fails("before the first " + bytes, 4, 0);
            row().add(104 + size, 10, 0, -bytes, 7).add(96, 0, 10, -bytes, 0).exit().runs("last " + bytes, 7);
            row().add(104 + size, 10, 0, 1 - bytes, 7).move(0, 0).exit().fails("behind the last " + bytes, 4, 0);
            row().move(6, 7).add(100 + size, 10, 6, -65, 0).exit().fails("STORE of src before " + bytes, 4, 1);
            row().move(6, 7).add(100 + size, 10, 6, 1 - bytes, 0).exit().fails("STORE of src behind " + bytes, 4, 1);
            row().add(96 + size, 0, 10, -65, 0).exit().fails("LOAD before " + bytes, 4, 0);
            row().add(96 + size, 0, 10, 1 - bytes, 0).exit().fails("LOAD behind " + bytes, 4, 0);
            row().add(107, 10, 0, -64, 7).add(96 + size, 0, 10, -64, 0).exit().runs("LOAD first " + bytes, 7);
            row().add(107, 10, 0, -8, 0).add(96 + size, 0, 10, -bytes, 0).exit().runs("LOAD last " + bytes, 0);
        }
    }

    private static void stackEndsByPointer() {
        Asked.says("STACK + c + off: from -64 on, and its end not above 0, or FAULT 4.");
        for (int c : new int[] {-4096, -65, -64, -1, 0, 1, 4096}) {
            row().copy(6, 10).add(17, 6, 0, 0, c).add(104, 6, 0, -64 - c, 7).add(96, 0, 10, -64, 0).exit().runs("first by " + c, 7);
            row().copy(6, 10).add(17, 6, 0, 0, c).add(104, 6, 0, -65 - c, 7).move(0, 0).exit().fails("before by " + c, 4, 2);
            row().copy(6, 10).add(17, 6, 0, 0, c).add(104, 6, 0, -1 - c, 7).add(96, 0, 10, -1, 0).exit().runs("last by " + c, 7);
            row().copy(6, 10).add(17, 6, 0, 0, c).add(104, 6, 0, -c, 7).move(0, 0).exit().fails("behind by " + c, 4, 2);
        }
    }

    private static void heldEights() {
        Asked.says("LOAD of 8 bytes at c divided by 8 that are HELD: what's HELD;");
        FilterGuard number = row().call(5).add(22, 0, 0, 0, 9).add(103, 10, 0, -64, 0).add(99, 7, 10, -64, 0).exit()
            .passes("a NUMBER");
        Asked.due("low", 0, number.known(4, 7, 0));
        Asked.due("high", 9, number.known(4, 7, 1));
        row().add(103, 10, 10, -8, 0).add(99, 7, 10, -8, 0).add(104, 7, 0, -1, 5).move(0, 1).exit().runs("STACK", 1);
        row().add(103, 10, 1, -8, 0).add(99, 7, 10, -8, 0).add(69, 7, 2, 0, 0).move(0, 1).exit().runs("PACKET", 1);
        row().add(103, 10, 2, -8, 0).add(99, 7, 10, -8, 0).add(69, 1, 7, 0, 0).move(0, 1).exit().runs("END", 1);
        row().map(1, 1, 1).add(104, 10, 0, -1, 5).add(114, 6, 0, 0, 0).add(103, 10, 6, -16, 0).copy(2, 10)
            .add(17, 2, 0, 0, -1).add(99, 1, 10, -16, 0).call(3).exit().runs("MAP", 1);
        for (int c = -64; c < 0; c += 8) {
            row().add(103, 10, 10, c, 0).add(99, 7, 10, c, 0).add(104, 7, 0, c == -64 ? -1 : -64, 5)
                .add(96, 0, 10, c == -64 ? -1 : -64, 0).exit().runs("STACK, HELD at " + c, 5);
        }
        FilterGuard part = row().add(107, 10, 0, -8, 3).add(98, 7, 10, -8, 0).move(0, 1).exit().runs("4 of its bytes aren't it", 1);
        Asked.due("high", Asked.LOW_32, part.known(2, 7, 1));
    }

    private static void heldAcross() {
        Asked.says("LOAD of 8 bytes at c divided by 8 that are HELD: what's HELD;");
        for (int c = -15; c <= -9; c++) {
            FilterGuard across = row().add(107, 10, 0, -8, 3).add(107, 10, 0, -16, 3).add(99, 7, 10, c, 0).move(0, 1).exit()
                .runs("not divided by 8: " + c, 1);
            Asked.due("ALL: low", Asked.LEAST, across.known(3, 7, 0));
            Asked.due("ALL: high", Asked.GREATEST, across.known(3, 7, 1));
        }
        row().copy(6, 10).add(17, 6, 0, 0, -13).add(103, 6, 10, 5, 0).add(99, 7, 6, 5, 0).add(104, 7, 0, -1, 4)
            .add(96, 0, 10, -2, 0).exit().fails("c + off is what counts; it is written over then", 5, 5);
        row().copy(6, 10).add(17, 6, 0, 0, -13).add(103, 6, 10, 5, 0).add(99, 7, 6, 5, 0).add(104, 7, 0, -9, 4)
            .add(96, 0, 10, -9, 0).exit().runs("c + off is what counts", 4);
    }

    private static void nonePartly() {
        Asked.says("else no pointer may be HELD in the 8 bytes of any of them, and none NONE: FAULT 5.");
        for (int none = 0; none < 8; none++) {
            Asked.Row row = row();
            for (int b = 0; b < 8; b++) {
                if (b != none) {
                    row.add(104, 10, 0, -8 + b, b);
                }
            }
            row.add(99, 0, 10, -8, 0).exit().fails("byte " + none + " is NONE", 5, 7);
            row.steps.get(7)[0] = 96;
            for (int b = 0; b < 8; b++) {
                row.steps.get(7)[3] = -8 + b;
                if (b == none) {
                    row.fails("it alone", 5, 7);
                } else {
                    row.runs("another one", b);
                }
            }
        }
        row().add(107, 10, 0, -16, 1).add(98, 0, 10, -10, 0).exit().fails("4 bytes into NONE", 5, 1);
        row().add(107, 10, 0, -16, 1).add(98, 0, 10, -12, 0).exit().runs("4 bytes up to NONE", 0);
    }

    private static void pointersPartly() {
        Asked.says("else no pointer may be HELD in the 8 bytes of any of them, and none NONE: FAULT 5.");
        for (int b = -16; b < -8; b++) {
            row().add(103, 10, 1, -16, 0).add(96, 0, 10, b, 0).exit().fails("byte " + b, 5, 1);
        }
        row().add(107, 10, 0, -8, 0).add(103, 10, 1, -16, 0).add(97, 0, 10, -9, 0).exit().fails("its last and the next", 5, 2);
        row().add(107, 10, 0, -8, 0).add(103, 10, 1, -16, 0).add(97, 0, 10, -8, 0).exit().runs("the next ones", 0);
        row().add(107, 10, 0, -24, 0).add(103, 10, 1, -16, 0).add(97, 0, 10, -17, 0).exit().fails("the one before and its first", 5, 2);
        row().add(107, 10, 0, -24, 0).add(103, 10, 1, -16, 0).add(97, 0, 10, -18, 0).exit().runs("the ones before", 0);
        row().add(103, 10, 1, -8, 0).add(103, 10, 1, -16, 0).add(99, 0, 10, -12, 0).exit().fails("across two", 5, 2);
    }

    private static void holding() {
        Asked.says("STORE: of a NUMBER, imm, or pointer, 8 bytes at c divided by 8: they HOLD it;");
        FilterGuard imm = row().add(107, 10, 0, -8, Integer.MIN_VALUE).add(99, 0, 10, -8, 0).exit().runs("imm", -2147483648L);
        Asked.due("low", -2147483648L, imm.known(2, 0, 0));
        Asked.due("high", -2147483648L, imm.known(2, 0, 1));
        FilterGuard over = row().add(103, 10, 1, -8, 0).add(107, 10, 0, -8, 4).add(99, 0, 10, -8, 0).exit().runs("over a pointer", 4);
        Asked.due("high", 4, over.known(3, 0, 1));
        row().add(107, 10, 0, -8, 4).add(103, 10, 10, -8, 0).add(99, 6, 10, -8, 0).add(104, 6, 0, -16, 1).move(0, 1).exit()
            .runs("a pointer over a NUMBER", 1);
        row().add(104, 10, 0, -5, 4).add(103, 10, 10, -8, 0).add(99, 6, 10, -8, 0).add(104, 6, 0, -16, 1).move(0, 1).exit()
            .runs("a pointer over DATA", 1);
        FilterGuard later = row().move(6, 3).add(103, 10, 6, -8, 0).move(6, 4).add(99, 0, 10, -8, 0).exit().runs("as it was then", 3);
        Asked.due("high", 3, later.known(4, 0, 1));
    }

    private static void holdingAcross() {
        Asked.says("of a NUMBER otherwise: DATA");
        for (int c = -15; c <= -9; c++) {
            FilterGuard across = row().add(107, 10, 0, c, 3).add(99, 0, 10, c, 0).exit().runs("8 bytes at " + c, 3);
            Asked.due("low", Asked.LEAST, across.known(2, 0, 0));
            row().add(107, 10, 0, c, 3).add(96, 0, 10, c - 1, 0).exit().fails("before " + c, 5, 1);
            row().add(107, 10, 0, c, 3).add(96, 0, 10, c + 8, 0).exit().fails("behind " + c, 5, 1);
            row().add(107, 10, 0, c, 3).add(96, 0, 10, c + 7, 0).exit().runs("the last of " + c, 0);
        }
    }

    private static void data() {
        Asked.says("of a NUMBER otherwise: DATA");
        for (int size = 0; size < 3; size++) {
            int bytes = 1 << size;
            row().add(104 + size, 10, 0, -16, 3).add(96 + size, 0, 10, -16, 0).exit().runs("DATA of " + bytes, 3);
            row().add(104 + size, 10, 0, -16, 3).add(96, 0, 10, -17, 0).exit().fails("before DATA of " + bytes, 5, 1);
            row().add(104 + size, 10, 0, -16, 3).add(96, 0, 10, -16 + bytes, 0).exit().fails("behind DATA of " + bytes, 5, 1);
            row().add(104 + size, 10, 0, -16, 3).add(99, 0, 10, -16, 0).exit().fails("8 bytes of which it's a part", 5, 1);
        }
        FilterGuard range = row().call(5).add(22, 0, 0, 0, 9).add(102, 10, 0, -8, 0).add(98, 7, 10, -8, 0).exit().passes("DATA");
        Asked.due("nothing is KNOWN of it", Asked.LOW_32, range.known(4, 7, 1));
    }

    private static void dataOverNumber() {
        Asked.says("(what was HELD there: a NUMBER: the other bytes are DATA; a pointer: NONE)");
        for (int b = 0; b < 8; b++) {
            long due = -1L & ~(0xFFL << 8 * b);
            FilterGuard guard = row().add(107, 10, 0, -8, -1).add(104, 10, 0, -8 + b, 0).add(99, 0, 10, -8, 0).exit()
                .runs("a byte over a NUMBER", due);
            Asked.due("it's no longer HELD: low", Asked.LEAST, guard.known(3, 0, 0));
            Asked.due("it's no longer HELD: high", Asked.GREATEST, guard.known(3, 0, 1));
        }
    }

    private static void dataOverPointer() {
        Asked.says("(what was HELD there: a NUMBER: the other bytes are DATA; a pointer: NONE)");
        for (int b = 0; b < 8; b++) {
            for (int other = 0; other < 8; other++) {
                Asked.Row row = row().add(103, 10, 1, -8, 0).add(104, 10, 0, -8 + b, 6).add(96, 0, 10, -8 + other, 0).exit();
                if (other == b) {
                    row.runs("the byte itself is DATA", 6);
                } else {
                    row.fails("another one is NONE", 5, 2);
                }
            }
        }
        row().add(103, 10, 1, -8, 0).add(104, 10, 0, -8, 6).add(99, 0, 10, -8, 0).exit().fails("no pointer is HELD any more", 5, 2);
        row().add(104, 10, 0, -7, 6).add(103, 10, 1, -8, 0).add(104, 10, 0, -8, 6).add(96, 0, 10, -7, 0).exit()
            .fails("nor what was DATA before it", 5, 3);
    }

    private static void dataAcrossTwo() {
        Asked.says("(what was HELD there: a NUMBER: the other bytes are DATA; a pointer: NONE)");
        // A pointer below, a NUMBER above, two bytes over the edge of both.
        Asked.Row row = row().add(103, 10, 1, -16, 0).add(107, 10, 0, -8, -1).add(105, 10, 0, -9, 0).add(96, 0, 10, -9, 0).exit();
        row.runs("the byte in the pointer", 0);
        row.steps.get(3)[3] = -10;
        row.fails("the pointer's other bytes", 5, 3);
        row.steps.get(3)[3] = -8;
        row.runs("the byte in the NUMBER", 0);
        row.steps.get(3)[3] = -1;
        row.runs("the NUMBER's other bytes", 255);
    }

    private static void pointersElsewhere() {
        Asked.says("of a pointer otherwise: FAULT 3.");
        for (int size = 0; size < 3; size++) {
            row().add(100 + size, 10, 1, -8, 0).exit().fails("a part of it", 3, 0);
        }
        for (int c = -15; c <= -9; c++) {
            row().add(103, 10, 1, c, 0).exit().fails("not divided by 8: " + c, 3, 0);
        }
        for (int c = -64; c <= -8; c += 8) {
            row().add(103, 10, 1, c, 0).move(0, 1).exit().runs("divided by 8: " + c, 1);
        }
        row().add(103, 10, 1, -72, 0).exit().fails("divided by 8, outside", 4, 0);
        row().add(103, 10, 1, 0, 0).exit().fails("divided by 8, outside", 4, 0);
    }

    private static Asked.Row packet(int bytes) {
        return row().copy(7, 1).add(17, 7, 0, 0, bytes).move(0, 0).add(68, 7, 2, 1, 0).exit();
    }

    private static void packetEnds() {
        Asked.says("PACKET + RANGE + off: low not below 0, high + bytes not above LENGTH, else FAULT 4.");
        for (int size = 0; size < 4; size++) {
            int bytes = 1 << size;
            packet(10).add(96 + size, 0, 1, 0, 0).exit().passes("first " + bytes);
            packet(10).add(96 + size, 0, 1, -1, 0).exit().fails("before the first " + bytes, 4, 5);
            packet(10).add(96 + size, 0, 1, 10 - bytes, 0).exit().passes("last " + bytes);
            packet(10).add(96 + size, 0, 1, 11 - bytes, 0).exit().fails("behind the last " + bytes, 4, 5);
            packet(10).add(104 + size, 1, 0, 10 - bytes, 0).exit().passes("STORE last " + bytes);
            packet(10).add(104 + size, 1, 0, 11 - bytes, 0).exit().fails("STORE behind the last " + bytes, 4, 5);
            packet(10).add(104 + size, 1, 0, -1, 0).exit().fails("STORE before the first " + bytes, 4, 5);
            packet(10).add(100 + size, 1, 0, 10 - bytes, 0).exit().passes("STORE of src last " + bytes);
            packet(10).add(100 + size, 1, 0, 11 - bytes, 0).exit().fails("STORE of src behind the last " + bytes, 4, 5);
            packet(10).add(96 + size, 0, 7, -bytes, 0).exit().passes("last by PACKET + 10 " + bytes);
            packet(10).add(96 + size, 0, 7, 1 - bytes, 0).exit().fails("behind the last by PACKET + 10 " + bytes, 4, 5);
            packet(10).add(96 + size, 0, 7, -10, 0).exit().passes("first by PACKET + 10 " + bytes);
            packet(10).add(96 + size, 0, 7, -11, 0).exit().fails("before the first by PACKET + 10 " + bytes, 4, 5);
            packet(bytes).add(96 + size, 0, 1, 0, 0).exit().passes("just so long " + bytes);
            packet(bytes - 1).add(96 + size, 0, 1, 0, 0).exit().fails("a byte too short " + bytes, 4, 5);
        }
    }

    private static void packetRanges() {
        Asked.says("PACKET + RANGE + off: low not below 0, high + bytes not above LENGTH, else FAULT 4.");
        // 6 is PACKET + 2 .. 5.
        Asked.Row row = packet(10).add(96, 6, 1, 0, 0).add(22, 6, 0, 0, 3).add(17, 6, 0, 0, 2).add(1, 6, 1, 0, 0);
        int at = row.size();
        row.add(96, 3, 6, 0, 0).exit();
        for (int size = 0; size < 4; size++) {
            int bytes = 1 << size;
            row.steps.get(at)[0] = 96 + size;
            row.steps.get(at)[3] = 10 - 5 - bytes;
            if (10 - 5 - bytes >= -2) {
                row.passes("high " + bytes);
            } else {
                row.fails("high, but low " + bytes, 4, at);
            }
            row.steps.get(at)[3]++;
            row.fails("behind high " + bytes, 4, at);
            row.steps.get(at)[3] = -2;
            if (bytes <= 7) {
                row.passes("low " + bytes);
            } else {
                row.fails("low, but high " + bytes, 4, at);
            }
            row.steps.get(at)[3] = -3;
            row.fails("before low " + bytes, 4, at);
        }
    }

    /** Register 6 is a VALUE of so many bytes, the first one 1, the others 5. */
    private static Asked.Row value(int bytes) {
        Asked.Row row = row().map(1, bytes, 1).add(104, 10, 0, -1, 1);
        for (int b = 0; b < bytes; b++) {
            row.add(104, 10, 0, -64 + b, b == 0 ? 1 : 5);
        }
        return row.copy(2, 10).add(17, 2, 0, 0, -64).copy(3, 2).copy(8, 2).add(114, 1, 0, 0, 0).call(2)
            .copy(2, 8).add(114, 1, 0, 0, 0).call(1).copy(6, 0).add(82, 6, 0, 1, 0).exit().move(0, 0);
    }

    private static void valueEnds() {
        Asked.says("VALUE likewise, by the MAP's value's length.");
        for (int length : new int[] {1, 2, 8, 63, 64}) {
            int at = value(length).size();
            for (int size = 0; size < 4; size++) {
                int bytes = 1 << size;
                if (bytes <= length) {
                    value(length).add(96 + size, 7, 6, length - bytes, 0).exit().passes("last " + bytes + " of " + length);
                    value(length).add(96 + size, 7, 6, 0, 0).exit().passes("first " + bytes + " of " + length);
                    value(length).add(104 + size, 6, 0, length - bytes, 0).exit().passes("STORE last " + bytes);
                }
                value(length).add(96 + size, 7, 6, length - bytes + 1, 0).exit().fails("behind the last " + bytes, 4, at);
                value(length).add(96 + size, 7, 6, -1, 0).exit().fails("before the first " + bytes, 4, at);
                value(length).add(104 + size, 6, 0, length - bytes + 1, 0).exit().fails("STORE behind the last " + bytes, 4, at);
                value(length).add(104 + size, 6, 0, -1, 0).exit().fails("STORE before the first " + bytes, 4, at);
            }
        }
        value(64).add(96, 0, 6, 63, 0).exit().runs("the last byte", 5);
        value(64).add(96, 0, 6, 0, 0).exit().runs("the first byte", 1);
        FilterGuard stored = value(64).add(104, 6, 0, 63, 200).exit().runs("the last byte is written", 0);
        Asked.due("it's there", 200, stored.place(0, 0, 64));
        Asked.due("the one before isn't", 5, stored.place(0, 0, 63));
    }

    private static void valueOfEachMap() {
        Asked.says("VALUE likewise, by the MAP's value's length.");
        for (int named = 0; named < 2; named++) {
            int length = named == 0 ? 3 : 5;
            Asked.Row row = row().map(1, 3, 1).map(1, 5, 1).add(104, 10, 0, -1, 1).copy(2, 10).add(17, 2, 0, 0, -1)
                .add(114, 1, 0, 0, named).call(1).add(82, 0, 0, 1, 0).exit();
            int at = row.size();
            row.add(96, 0, 0, length - 1, 0).exit().passes("MAP " + named);
            row.steps.get(at)[3] = length;
            row.fails("MAP " + named, 4, at);
        }
    }

    private static void pointersInto() {
        Asked.says("STORES there of pointers: FAULT 3.");
        int at = value(8).size();
        for (int size = 0; size < 4; size++) {
            packet(8).add(100 + size, 1, 10, 0, 0).exit().fails("PACKET", 3, 5);
            packet(8).add(100 + size, 1, 10, 9, 0).exit().fails("PACKET, outside", 3, 5);
            value(8).add(100 + size, 6, 10, 0, 0).exit().fails("VALUE", 3, at);
            value(8).add(100 + size, 6, 10, 9, 0).exit().fails("VALUE, outside", 3, at);
        }
        value(8).add(103, 6, 6, 0, 0).exit().fails("a VALUE in itself", 3, at);
    }

    private static void allOthers() {
        Asked.says("All others: FAULT 3.");
        for (int size = 0; size < 4; size++) {
            row().add(96 + size, 0, 2, 0, 0).exit().fails("LOAD at END", 3, 0);
            row().add(96 + size, 0, 2, -8, 0).exit().fails("LOAD before END", 3, 0);
            row().add(104 + size, 2, 0, -8, 0).exit().fails("STORE before END", 3, 0);
            row().move(6, 0).add(96 + size, 0, 6, 0, 0).exit().fails("LOAD at a NUMBER", 3, 1);
            row().move(6, 0).add(104 + size, 6, 0, 0, 0).exit().fails("STORE at a NUMBER", 3, 1);
            row().map(1, 8, 1).add(114, 6, 0, 0, 0).add(96 + size, 0, 6, 0, 0).exit().fails("LOAD at a MAP", 3, 1);
            row().map(1, 8, 1).add(114, 6, 0, 0, 0).add(104 + size, 6, 0, 0, 0).exit().fails("STORE at a MAP", 3, 1);
            Asked.Row maybe = row().map(1, 8, 1).add(104, 10, 0, -1, 1).copy(2, 10).add(17, 2, 0, 0, -1)
                .add(114, 1, 0, 0, 0).call(1);
            maybe.add(96 + size, 6, 0, 0, 0).exit().fails("LOAD at a MAYBE", 3, 5);
            maybe.steps.set(5, new int[] {104 + size, 0, 0, 0, 0});
            maybe.fails("STORE at a MAYBE", 3, 5);
        }
    }

    private static void keysAndValues() {
        Asked.says("Keys and values for CALLS are read like LOADS (each byte, FAULTS 4, 5;");
        for (int key = 1; key <= 8; key++) {
            for (int call : new int[] {1, 3}) {
                Asked.Row row = row().map(key, 1, 1);
                for (int b = 0; b < key; b++) {
                    row.add(104, 10, 0, -64 + b, b);
                    row.add(104, 10, 0, -1 - b, b);
                }
                int at = row.size();
                row.copy(2, 10).add(17, 2, 0, 0, -64).add(114, 1, 0, 0, 0).call(call).move(0, 1).exit();
                row.runs("key at the STACK's begin", 1);
                row.steps.get(at + 1)[4] = -65;
                row.fails("before it", 4, at + 3);
                row.steps.get(at + 1)[4] = -63;
                row.fails("its last byte is NONE", 5, at + 3);
                row.steps.get(at + 1)[4] = -key;
                row.runs("key at the STACK's end", 1);
                row.steps.get(at + 1)[4] = -key + 1;
                row.fails("behind it", 4, at + 3);
                row.steps.get(at + 1)[4] = -key - 1;
                row.fails("its first byte is NONE", 5, at + 3);
            }
        }
        for (int value : new int[] {1, 7, 63}) {
            Asked.Row row = row().map(1, value, 1);
            for (int b = 0; b < value; b++) {
                row.add(104, 10, 0, -1 - b, b);
            }
            int at = row.size();
            row.copy(2, 10).add(17, 2, 0, 0, -1).copy(3, 10).add(17, 3, 0, 0, -value).add(114, 1, 0, 0, 0).call(2).exit();
            row.runs("value at the STACK's end", 0);
            row.steps.get(at + 3)[4] = -value + 1;
            row.fails("behind it", 4, at + 5);
            row.steps.get(at + 3)[4] = -value - 1;
            row.fails("its first byte is NONE", 5, at + 5);
            row.steps.get(at + 3)[4] = -65;
            row.fails("before the STACK", 4, at + 5);
        }
    }

    private static void keysOfEachMap() {
        Asked.says("Keys and values for CALLS are read like LOADS (each byte, FAULTS 4, 5;");
        int[] keys = {2, 5, 1, 8};
        int[] values = {9, 3, 17, 1};
        for (int map = 0; map < 4; map++) {
            Asked.Row row = row();
            for (int m = 0; m < 4; m++) {
                row.map(keys[m], values[m], 1);
            }
            for (int b = 1; b <= keys[map]; b++) {
                row.add(104, 10, 0, -b, b);
            }
            for (int b = 1; b <= values[map]; b++) {
                row.add(104, 10, 0, -32 - b, b);
            }
            int at = row.size();
            row.copy(2, 10).add(17, 2, 0, 0, -keys[map]).copy(3, 10).add(17, 3, 0, 0, -32 - values[map])
                .add(114, 1, 0, 0, map).call(2).exit();
            row.runs("key and value of MAP " + map, 0);
            row.steps.get(at + 1)[4]++;
            row.fails("key of MAP " + map + " behind the STACK", 4, at + 5);
            row.steps.get(at + 1)[4] -= 2;
            row.fails("key of MAP " + map + " with a byte that's NONE", 5, at + 5);
            row.steps.get(at + 1)[4]++;
            row.steps.get(at + 3)[4]++;
            row.fails("value of MAP " + map + " with a byte that's NONE", 5, at + 5);
        }
    }

    private static void keysOfHeldNumbers() {
        Asked.says("a NUMBER's HELD bytes are right).");
        for (int c = -16; c <= -8; c++) {
            FilterGuard guard = row().map(8, 8, 1).add(107, 10, 0, -16, 0x0101).add(107, 10, 0, -8, 0x0202).copy(2, 10)
                .add(17, 2, 0, 0, c).copy(3, 2).add(114, 1, 0, 0, 0).call(2).exit().runs("HELD at " + c, 0);
            for (int b = 0; b < 8; b++) {
                int at = c + b;
                int due = at == -16 || at == -15 ? 1 : at == -8 || at == -7 ? 2 : 0;
                Asked.due("key", due, guard.place(0, 0, b));
                Asked.due("value", due, guard.place(0, 0, 8 + b));
            }
        }
        for (int c = -16; c <= -8; c++) {
            Asked.Row row = row().map(1, 8, 1).add(107, 10, 0, -16, 1).add(103, 10, 1, -8, 0).copy(3, 10).add(17, 3, 0, 0, c)
                .copy(2, 10).add(17, 2, 0, 0, -16).add(114, 1, 0, 0, 0).call(2).exit();
            if (c == -16) {
                row.runs("beside a pointer", 0);
            } else {
                row.fails("into a pointer", 5, 7);
            }
        }
    }

    private static void foretold() {
        Asked.says("for each INSTRUCTION how often it was gone;");
        FilterGuard guard = row().move(0, 0).move(6, 0).add(17, 6, 0, 0, 1).add(83, 6, 0, -2, 5).add(64, 0, 0, 1, 0)
            .move(0, 9).exit().passes("a loop");
        int[] due = {1, 1, 5, 5, 1, 0, 1};
        for (int i = 0; i < 7; i++) {
            Asked.due("instruction " + i, due[i], guard.known(i, 0, 3));
        }
    }

    private static void foretoldOfNumbers() {
        Asked.says("for each register there, before it, the least low and the greatest high of NUMBERS.");
        FilterGuard loop = row().move(0, 0).move(6, 0).add(17, 6, 0, 0, 1).add(83, 6, 0, -2, 5).exit().passes("a loop");
        Asked.due("before the first turn", 0, loop.known(2, 6, 0));
        Asked.due("before the last turn", 4, loop.known(2, 6, 1));
        Asked.due("behind the first turn", 1, loop.known(3, 6, 0));
        Asked.due("behind the last turn", 5, loop.known(3, 6, 1));
        Asked.due("at the EXIT", 5, loop.known(4, 6, 0));
        Asked.due("before it, not behind it", 0, loop.known(1, 6, 2));
        // On one WAY 6 is a pointer, on the other one a NUMBER.
        FilterGuard mixed = row().call(5).copy(6, 10).add(91, 0, 0, 1, 1).move(6, -7).exit().passes("a NUMBER on one WAY");
        Asked.due("it was one", 1, mixed.known(4, 6, 2));
        Asked.due("low of that one", -7, mixed.known(4, 6, 0));
        Asked.due("high of that one", -7, mixed.known(4, 6, 1));
        FilterGuard none = row().call(5).add(91, 0, 0, 1, 1).move(6, 7).exit().passes("NONE on one WAY");
        Asked.due("low of the other one", 7, none.known(3, 6, 0));
        FilterGuard ends = row().all(6).constant(7, Asked.LEAST).move(0, 0).exit().passes("the ends of longs");
        Asked.due("low of ALL", Asked.LEAST, ends.known(9, 6, 0));
        Asked.due("high of ALL", Asked.GREATEST, ends.known(9, 6, 1));
        Asked.due("high of a CONST", Asked.LEAST, ends.known(9, 7, 1));
        FilterGuard held = row().add(107, 10, 0, -64, 3).move(6, 1).move(7, 1).move(0, 0).exit().passes("what the STACK HOLDS");
        for (int i = 0; i < 4; i++) {
            Asked.due("is no register", 0, held.known(i, 0, 2));
        }
        FilterGuard below = row().call(5).copy(8, 0).move(6, -5).add(91, 8, 0, 1, 1).move(6, -9).exit().passes("both below 0");
        Asked.due("least low", -9, below.known(5, 6, 0));
        Asked.due("greatest high", -5, below.known(5, 6, 1));
    }

    private static void foretoldOfRuns() {
        Asked.says("In each run, whenever an INSTRUCTION begins, a register that is a NUMBER there on that WAY lies between these.");
        FilterGuard guard = packet(1).add(96, 6, 1, 0, 0).add(85, 6, 0, 2, 9).copy(0, 6).exit().move(0, -1).exit().passes("runs");
        Asked.due("low", 0, guard.known(8, 0, 0));
        Asked.due("high", 9, guard.known(8, 0, 1));
        int[] bytes = {0, 9, 10, 255};
        int[] due = {0, 9, -1, -1};
        for (int n = 0; n < 4; n++) {
            guard.end(guard.count(2));
            guard.feed(bytes[n] << 24, 0, 0, 0, 0);
            Asked.due("byte " + bytes[n], due[n], guard.run());
            Asked.due("nothing is outside", 0, guard.count(9));
        }
    }
}

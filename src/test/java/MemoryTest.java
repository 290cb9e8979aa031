/** Promises 4, 9, 10 and 11, MEMORY: what can be read and written, by CHECKING and in runs; the CALLS on maps. */
public final class MemoryTest {
    private static Asked.Row row() {
        return new Asked.Row();
    }

    public static void main(String[] args) {
        stackBounds();
        stackBytes();
        holding();
        scattering();
        stackIsNewInEachRun();
        packetBounds();
        packetBytes();
        valueBounds();
        puttingAndTaking();
        fullMaps();
        sizes();
        eachMapForItself();
        Asked.end();
    }

    private static void stackBounds() {
        for (int size = 0; size < 4; size++) {
            int bytes = 1 << size;
            row().add(104 + size, 10, 0, -64, 1).move(0, 0).exit().runs("lowest " + bytes, 0);
            row().add(104 + size, 10, 0, -65, 1).fails("below " + bytes, 4, 0);
            row().add(104 + size, 10, 0, -bytes, 1).move(0, 0).exit().runs("highest " + bytes, 0);
            row().add(104 + size, 10, 0, 1 - bytes, 1).fails("above " + bytes, 4, 0);
            row().add(104 + size, 10, 0, Integer.MAX_VALUE, 1).fails("far above " + bytes, 4, 0);
            row().add(104 + size, 10, 0, Integer.MIN_VALUE, 1).fails("far below " + bytes, 4, 0);
            row().add(96 + size, 3, 10, -65, 1).fails("LOAD below " + bytes, 4, 0);
            row().add(96 + size, 3, 10, 1 - bytes, 1).fails("LOAD above goes before NONE " + bytes, 4, 0);
            row().add(96 + size, 3, 10, -64, 1).fails("LOAD of NONE " + bytes, 5, 0);
            row().copy(6, 10).add(17, 6, 0, 0, -100).add(104 + size, 6, 0, 36, 1).move(0, 0).exit()
                .runs("c and off " + bytes, 0);
            row().copy(6, 10).add(17, 6, 0, 0, -100).add(104 + size, 6, 0, 35, 1).fails("c and off " + bytes, 4, 2);
        }
    }

    private static void stackBytes() {
        row().add(106, 10, 0, -8, 0x04030201).add(106, 10, 0, -4, 0x88070605).add(99, 0, 10, -8, 0).exit()
            .runs("the lowest first", 0x8807060504030201L);
        row().add(107, 10, 0, -8, -2).add(99, 0, 10, -8, 0).exit().runs("imm as a long", -2);
        row().add(107, 10, 0, -8, -2).add(98, 0, 10, -8, 0).exit().runs("4 bytes without sign", 0xFFFFFFFEL);
        row().add(107, 10, 0, -8, -2).add(97, 0, 10, -4, 0).exit().runs("2 bytes without sign", 0xFFFFL);
        row().add(107, 10, 0, -8, -2).add(96, 0, 10, -8, 0).exit().runs("1 byte without sign", 254);
        row().move(6, 0x12345678).add(100, 10, 6, -1, 0).add(96, 0, 10, -1, 0).exit().runs("lowest byte", 0x78);
        row().move(6, 0x12345678).add(101, 10, 6, -2, 0).add(97, 0, 10, -2, 0).exit().runs("2 lowest", 0x5678);
        row().add(105, 10, 0, -3, 0x1234).add(104, 10, 0, -1, 7).add(104, 10, 0, -4, 9).add(98, 0, 10, -4, 0).exit()
            .runs("bytes of their own", 0x07123409);
        row().add(105, 10, 0, -3, 0x1234).add(104, 10, 0, -1, 7).add(98, 0, 10, -4, 0).fails("one is NONE", 5, 2);
        FilterGuard data = row().add(106, 10, 0, -8, 1).add(106, 10, 0, -4, 0).add(99, 0, 10, -8, 0).exit()
            .runs("DATA", 1);
        Asked.due("DATA is ALL", Asked.LEAST, data.known(3, 0, 0));
        Asked.due("DATA is ALL", Asked.GREATEST, data.known(3, 0, 1));
        row().add(107, 10, 0, -12, 5).add(99, 0, 10, -12, 0).exit().runs("8 bytes across", 5);
        row().add(107, 10, 0, -12, 5).add(99, 0, 10, -8, 0).fails("8 bytes across, the others are NONE", 5, 1);
    }

    private static void holding() {
        FilterGuard number = row().range(6, 3, 9).add(103, 10, 6, -16, 0).add(99, 7, 10, -16, 0).add(98, 8, 10, -16, 0)
            .move(0, 0).exit().runs("HELD", 0);
        Asked.due("HELD: low", 3, number.known(21, 7, 0));
        Asked.due("HELD: high", 9, number.known(21, 7, 1));
        Asked.due("a part of it: low", 0, number.known(22, 8, 0));
        Asked.due("a part of it: high", Asked.LOW_32, number.known(22, 8, 1));
        FilterGuard imm = row().add(107, 10, 0, -8, -7).add(99, 0, 10, -8, 0).exit().runs("HELD imm", -7);
        Asked.due("HELD imm: low", -7, imm.known(2, 0, 0));
        Asked.due("HELD imm: high", -7, imm.known(2, 0, 1));
        FilterGuard across = row().add(107, 10, 0, -8, 0).add(107, 10, 0, -16, 0).add(99, 0, 10, -12, 0).exit()
            .runs("across two NUMBERS", 0);
        Asked.due("across two NUMBERS is ALL", Asked.GREATEST, across.known(3, 0, 1));
        FilterGuard alone = row().range(6, 3, 9).add(103, 10, 6, -16, 0).add(83, 6, 0, 2, 5).move(0, 0).exit()
            .add(99, 7, 10, -16, 0).move(0, 0).exit().passes("a condition tells of registers alone");
        Asked.due("what's HELD stays", 9, alone.known(24, 7, 1));
        Asked.due("the register is cut", 4, alone.known(24, 6, 1));
        row().add(103, 10, 10, -8, 0).add(99, 6, 10, -8, 0).add(104, 6, 0, -9, 4).add(96, 0, 6, -9, 0).exit()
            .runs("a HELD pointer is one again", 4);
        for (int size = 0; size < 3; size++) {
            row().add(103, 10, 1, -8, 0).add(96 + size, 3, 10, -8, 0).fails("a part of a pointer", 5, 1);
            row().add(100 + size, 10, 1, -8, 0).fails("STORE of a part of a pointer", 3, 0);
            row().add(100 + size, 10, 1, 8, 0).fails("STORE of a part of a pointer, outside", 3, 0);
        }
        row().add(103, 10, 1, -8, 0).add(107, 10, 0, -16, 0).add(99, 3, 10, -12, 0).fails("across a pointer", 5, 2);
        row().add(103, 10, 1, -12, 0).fails("STORE of a pointer across", 3, 0);
        row().add(103, 10, 1, -68, 0).fails("STORE of a pointer across, outside", 3, 0);
        row().add(103, 10, 1, -72, 0).fails("STORE of a pointer outside", 4, 0);
        row().add(103, 10, 1, 0, 0).fails("STORE of a pointer outside", 4, 0);
        row().copy(6, 10).add(17, 6, 0, 0, -3).add(103, 6, 1, -5, 0).add(99, 3, 10, -8, 0).add(98, 0, 3, 0, 0)
            .fails("c + off is divided by 8; it is PACKET + 0 again", 4, 4);
    }

    private static void scattering() {
        row().add(107, 10, 0, -8, -1).add(104, 10, 0, -6, 0).add(99, 0, 10, -8, 0).exit()
            .runs("the other bytes of a NUMBER are DATA", 0xFFFFFFFFFF00FFFFL);
        FilterGuard all = row().add(107, 10, 0, -8, 0).add(104, 10, 0, -6, 0).add(99, 0, 10, -8, 0).exit()
            .runs("and no longer HELD", 0);
        Asked.due("no longer HELD", Asked.LEAST, all.known(3, 0, 0));
        row().add(103, 10, 1, -8, 0).add(104, 10, 0, -6, 0).add(96, 0, 10, -6, 0).exit()
            .runs("a byte over a pointer is DATA", 0);
        row().add(103, 10, 1, -8, 0).add(104, 10, 0, -6, 0).add(96, 0, 10, -5, 0).exit()
            .fails("the other bytes of a pointer are NONE", 5, 2);
        row().add(103, 10, 1, -8, 0).add(104, 10, 0, -6, 0).add(99, 0, 10, -8, 0).exit()
            .fails("it is no pointer then", 5, 2);
        row().add(103, 10, 1, -8, 0).add(103, 10, 1, -16, 0).add(107, 10, 0, -12, 6).add(99, 0, 10, -12, 0).exit()
            .runs("8 bytes across two pointers", 6);
        row().add(103, 10, 1, -8, 0).add(103, 10, 1, -16, 0).add(107, 10, 0, -12, 6).add(96, 0, 10, -13, 0).exit()
            .fails("below them it's NONE", 5, 3);
        row().add(103, 10, 1, -8, 0).add(103, 10, 1, -16, 0).add(107, 10, 0, -12, 6).add(96, 0, 10, -4, 0).exit()
            .fails("above them it's NONE", 5, 3);
        row().add(104, 10, 0, -6, 0).add(103, 10, 1, -8, 0).add(107, 10, 0, -8, 3).add(99, 0, 10, -8, 0).exit()
            .runs("a NUMBER over a pointer", 3);
        row().add(104, 10, 0, -6, 0).add(103, 10, 1, -8, 0).add(104, 10, 0, -8, 0).add(96, 0, 10, -6, 0).exit()
            .fails("what was DATA before a pointer is NONE behind it", 5, 3);
    }

    private static void stackIsNewInEachRun() {
        FilterGuard guard = row().map(1, 1, 1).add(107, 10, 0, -8, 3).add(99, 0, 10, -8, 0).add(17, 0, 0, 0, 1)
            .add(103, 10, 0, -8, 0).exit().runs("first", 4);
        Asked.due("second run", 4, guard.run());
    }

    private static Asked.Row withPacket(int bytes) {
        return row().copy(7, 1).add(17, 7, 0, 0, bytes).move(0, 0).add(69, 7, 2, 1, 0);
    }

    private static void packetBounds() {
        for (int size = 0; size < 4; size++) {
            int bytes = 1 << size;
            withPacket(10).add(96 + size, 0, 1, 10 - bytes, 0).exit().runs("last " + bytes, 0);
            withPacket(10).add(96 + size, 0, 1, 11 - bytes, 0).exit().fails("behind last " + bytes, 4, 4);
            withPacket(10).add(96 + size, 0, 1, -1, 0).exit().fails("before first " + bytes, 4, 4);
            withPacket(10).add(96 + size, 0, 1, Integer.MAX_VALUE, 0).exit().fails("far behind " + bytes, 4, 4);
            withPacket(10).add(96 + size, 0, 7, -bytes, 0).exit().runs("from its end " + bytes, 0);
            withPacket(10).add(104 + size, 1, 0, 10 - bytes, 9).exit().runs("STORE last " + bytes, 0);
            withPacket(10).add(104 + size, 1, 0, 11 - bytes, 9).exit().fails("STORE behind last " + bytes, 4, 4);
            withPacket(10).add(100 + size, 1, 10, 0, 0).exit().fails("STORE of a pointer " + bytes, 3, 4);
            withPacket(10).add(100 + size, 1, 10, 99, 0).exit().fails("STORE of a pointer outside " + bytes, 3, 4);
        }
        row().range(6, 2, 5).copy(7, 1).add(17, 7, 0, 0, 10).move(0, 0).add(69, 7, 2, 3, 0).copy(8, 1).add(1, 8, 6, 0, 0)
            .add(98, 0, 8, 1, 0).exit().runs("PACKET + RANGE", 0);
        row().range(6, 2, 5).copy(7, 1).add(17, 7, 0, 0, 10).move(0, 0).add(69, 7, 2, 3, 0).copy(8, 1).add(1, 8, 6, 0, 0)
            .add(98, 0, 8, 2, 0).exit().fails("PACKET + RANGE, its high", 4, 25);
        row().range(6, 2, 5).copy(7, 1).add(17, 7, 0, 0, 10).move(0, 0).add(69, 7, 2, 3, 0).copy(8, 1).add(1, 8, 6, 0, 0)
            .add(98, 0, 8, -3, 0).exit().fails("PACKET + RANGE, its low", 4, 25);
    }

    private static void packetBytes() {
        withPacket(20).exit().add(98, 0, 1, 0, 0).exit().fails("nothing is KNOWN of it on the other side", 4, 5);
        FilterGuard guard = row().copy(7, 1).add(17, 7, 0, 0, 20).move(0, -1).add(69, 7, 2, 3, 0).add(98, 0, 1, 0, 0)
            .add(106, 1, 0, 4, 0x0D0C0B0A).add(104, 1, 0, 19, 255).exit().passes("packet");
        Asked.due("no packet", -1, guard.run());
        guard.feed(0x01020304, 0x05060708, 0, 0, 0);
        guard.end(1);
        Asked.due("a packet too short", -1, guard.run());
        Asked.due("is left alone", 5, guard.letter(4));
        guard.end(19);
        guard.feed(0x01020304, 0x05060708, 0, 0, 0);
        Asked.due("a packet", 0x04030201, guard.run());
        int[] due = {1, 2, 3, 4, 10, 11, 12, 13, 0, 0, 0, 0, 0, 0, 0, 0, 0, 0, 0, 255};
        for (int i = 0; i < 20; i++) {
            Asked.due("packet's byte " + i, due[i], guard.letter(i));
        }
        Asked.due("strays", 0, guard.count(9));
    }

    /** A row that has put 1 -> bytes 5 5 .. into a map, and looked for it: 0 is a VALUE, 6 is its address. */
    private static Asked.Row withValue(int bytes) {
        Asked.Row row = row().map(1, bytes, 2).add(104, 10, 0, -1, 1).copy(9, 10).add(17, 9, 0, 0, -1);
        for (int b = 0; b < bytes; b++) {
            row.add(104, 10, 0, -64 + b, 5);
        }
        return row.copy(2, 9).copy(3, 10).add(17, 3, 0, 0, -64).add(114, 1, 0, 0, 0).call(2)
            .copy(2, 9).add(114, 1, 0, 0, 0).call(1).add(82, 0, 0, 1, 0).exit().copy(6, 0).move(0, 0);
    }

    private static void valueBounds() {
        for (int size = 0; size < 4; size++) {
            int bytes = 1 << size;
            long all = 0x0505050505050505L >>> 64 - 8 * bytes;
            int at = withValue(10).size();
            withValue(10).add(96 + size, 0, 6, 10 - bytes, 0).exit().runs("value's last " + bytes, all);
            withValue(10).add(96 + size, 0, 6, 11 - bytes, 0).exit().fails("behind the value " + bytes, 4, at);
            withValue(10).add(96 + size, 0, 6, -1, 0).exit().fails("before the value " + bytes, 4, at);
            withValue(10).add(104 + size, 6, 0, 11 - bytes, 0).exit().fails("STORE behind the value " + bytes, 4, at);
            withValue(10).add(100 + size, 6, 10, 0, 0).exit().fails("STORE of a pointer " + bytes, 3, at);
            FilterGuard guard = withValue(10).add(104 + size, 6, 0, 10 - bytes, -1).exit().runs("STORE " + bytes, 0);
            Asked.due("value's last byte", 255, guard.place(0, 0, 10));
            Asked.due("value's byte before", 5, guard.place(0, 0, 10 - bytes));
        }
        int at = withValue(10).size();
        withValue(10).call(5).add(22, 0, 0, 0, 7).add(1, 6, 0, 0, 0).add(97, 0, 6, 1, 0).exit()
            .runs("VALUE + RANGE", 0x0505);
        withValue(10).call(5).add(22, 0, 0, 0, 7).add(1, 6, 0, 0, 0).add(97, 0, 6, 2, 0).exit()
            .fails("VALUE + RANGE", 4, at + 3);
        withValue(10).call(5).add(22, 0, 0, 0, 7).add(1, 0, 6, 0, 0).add(18, 0, 0, 0, 7).add(96, 0, 0, 7, 0).exit()
            .runs("RANGE + VALUE - 7", 5);
        withValue(10).call(5).add(22, 0, 0, 0, 7).add(1, 0, 6, 0, 0).add(18, 0, 0, 0, 7).add(96, 0, 0, 6, 0).exit()
            .fails("RANGE + VALUE - 7", 4, at + 4);
        withValue(10).add(17, 6, 0, 0, 4097).exit().fails("VALUE + 4097", 3, at);
        withValue(10).copy(0, 6).exit().fails("EXIT of a VALUE", 3, at + 1);
        withValue(10).add(81, 6, 0, 0, 0).exit().fails("a VALUE is no MAYBE", 3, at);
        withValue(10).add(1, 6, 6, 0, 0).exit().fails("VALUE + VALUE", 3, at);
        withValue(64).add(96, 0, 6, 63, 0).exit().runs("the longest value", 5);
    }

    private static Asked.Row keyed(int sort, int key, int value) {
        return row().map(1, 1, 3).add(104, 10, 0, -1, key).add(104, 10, 0, -2, value).copy(2, 10).add(17, 2, 0, 0, -1)
            .copy(3, 10).add(17, 3, 0, 0, -2).add(114, 1, 0, 0, 0).call(sort);
    }

    /** One program that does with map 0 what the packet's bytes say: call, key, value. */
    private static FilterGuard driven(int key, int value, int places) {
        Asked.Row row = row().map(key, value, places).copy(6, 1).copy(7, 1).add(17, 7, 0, 0, 20).move(0, 99)
            .add(69, 7, 2, 21, 0);
        row.add(99, 3, 6, 1, 0).add(103, 10, 3, -8, 0).add(99, 4, 6, 9, 0).add(103, 10, 4, -16, 0).add(96, 5, 6, 0, 0);
        row.copy(2, 10).add(17, 2, 0, 0, -8).copy(3, 10).add(17, 3, 0, 0, -16).add(114, 1, 0, 0, 0);
        // 10 instructions behind the jump: PUT and TAKE, or LOOK with the value's first byte.
        row.add(82, 5, 0, 2, 2).call(2).exit();
        row.add(82, 5, 0, 2, 3).call(3).exit();
        row.call(1).add(82, 0, 0, 1, 0).exit().add(96, 0, 0, 0, 0).add(17, 0, 0, 0, 1000).exit();
        return row.passes("driven");
    }

    private static long drive(FilterGuard guard, int call, int key, int value) {
        guard.end(guard.count(2));
        guard.feed(call << 24 | key << 16, 0, value << 16, 0, 0);
        return guard.run();
    }

    private static void puttingAndTaking() {
        FilterGuard guard = driven(2, 3, 3);
        Asked.due("LOOK in an empty map", 0, drive(guard, 1, 7, 0));
        Asked.due("TAKE from an empty map", 1, drive(guard, 3, 7, 0));
        Asked.due("PUT 7", 0, drive(guard, 2, 7, 70));
        Asked.due("PUT 8", 0, drive(guard, 2, 8, 80));
        Asked.due("PUT 9", 0, drive(guard, 2, 9, 90));
        Asked.due("PUT 10 finds no place", 1, drive(guard, 2, 10, 100));
        Asked.due("PUT 8 again", 0, drive(guard, 2, 8, 81));
        Asked.due("LOOK 8", 1081, drive(guard, 1, 8, 0));
        Asked.due("LOOK 9", 1090, drive(guard, 1, 9, 0));
        Asked.due("LOOK 10", 0, drive(guard, 1, 10, 0));
        int[] keys = {7, 8, 9};
        int[] values = {70, 81, 90};
        for (int p = 0; p < 3; p++) {
            Asked.due("place " + p, 1, guard.place(0, p, -1));
            Asked.due("key of " + p, keys[p], guard.place(0, p, 0));
            Asked.due("key's second byte of " + p, 0, guard.place(0, p, 1));
            Asked.due("value of " + p, values[p], guard.place(0, p, 2));
        }
        Asked.due("TAKE 8", 0, drive(guard, 3, 8, 0));
        Asked.due("its place is empty", 0, guard.place(0, 1, -1));
        Asked.due("the key's bytes stay", 8, guard.place(0, 1, 0));
        Asked.due("the value's bytes stay", 81, guard.place(0, 1, 2));
        Asked.due("LOOK 8 behind TAKE", 0, drive(guard, 1, 8, 0));
        Asked.due("TAKE 8 again", 1, drive(guard, 3, 8, 0));
        Asked.due("PUT 9 stays where it is", 0, drive(guard, 2, 9, 91));
        Asked.due("place 1 is empty still", 0, guard.place(0, 1, -1));
        Asked.due("place 2 got it", 91, guard.place(0, 2, 2));
        Asked.due("TAKE 7", 0, drive(guard, 3, 7, 0));
        Asked.due("PUT 11", 0, drive(guard, 2, 11, 110));
        Asked.due("the first empty place got it", 11, guard.place(0, 0, 0));
        Asked.due("with its value", 110, guard.place(0, 0, 2));
        Asked.due("strays", 0, guard.count(9));
        Asked.due("packet too short", 20, guard.count(2));
        guard.end(1);
        Asked.due("the map is left alone", 99, guard.run());
    }

    private static void fullMaps() {
        keyed(2, 1, 2).exit().runs("PUT", 0);
        keyed(3, 1, 2).exit().runs("TAKE", 1);
        FilterGuard guard = keyed(2, 200, 255).exit().runs("PUT", 0);
        Asked.due("key without sign", 200, guard.place(0, 0, 0));
        Asked.due("value without sign", 255, guard.place(0, 0, 1));
        Asked.due("the same PLACE again", 0, guard.run());
        Asked.due("the next one is empty", 0, guard.place(0, 1, -1));
    }

    /** The longest key, the longest value and the most places, in the last map. */
    private static void sizes() {
        Asked.Row row = row().map(1, 1, 1).map(2, 2, 2).map(3, 3, 3).map(8, 64, 16);
        for (int e = 0; e < 8; e++) {
            row.add(107, 10, 0, -64 + 8 * e, e + 1);
        }
        row.move(7, 0);
        int loop = row.size();
        row.add(103, 10, 7, -64, 0).copy(2, 10).add(17, 2, 0, 0, -64).copy(3, 2).add(114, 1, 0, 0, 3).call(2)
            .copy(8, 0).add(17, 7, 0, 0, 1);
        row.add(83, 7, 0, loop - row.size() - 1, 17).copy(0, 8).exit();
        FilterGuard guard = row.runs("16 of 17 find a place", 1);
        Asked.due("the last place", 1, guard.place(3, 15, -1));
        Asked.due("its key", 15, guard.place(3, 15, 0));
        Asked.due("its value", 15, guard.place(3, 15, 8));
        Asked.due("its last eight bytes", 8, guard.place(3, 15, 64));
        Asked.due("its last byte", 0, guard.place(3, 15, 71));
        Asked.missing("behind it", () -> guard.place(3, 15, 72));
        Asked.due("other maps are empty", 0, guard.place(2, 2, -1));
    }

    /** Keys and values are as long as those of the map that is named. */
    private static void eachMapForItself() {
        for (int map = 0; map < 4; map++) {
            int key = 2 * map + 1;
            int value = 5 * map + 4;
            Asked.Row row = row().map(1, 4, 1).map(3, 9, 1).map(5, 14, 1).map(7, 19, 1);
            for (int b = 1; b <= key; b++) {
                row.add(104, 10, 0, -b, b);
            }
            for (int b = 0; b < value; b++) {
                row.add(104, 10, 0, -64 + b, 40 + b);
            }
            row.copy(2, 10).add(17, 2, 0, 0, -key).copy(3, 10).add(17, 3, 0, 0, -64).add(114, 1, 0, 0, map);
            int put = row.size();
            row.call(2).copy(2, 10).add(17, 2, 0, 0, -key).add(114, 1, 0, 0, map).call(1).add(103, 10, 0, -40, 0)
                .add(82, 0, 0, 1, 0).exit().add(99, 6, 10, -40, 0).add(17, 6, 0, 0, 2);
            int load = row.size();
            row.add(96, 0, 6, value - 3, 0).exit();
            FilterGuard guard = row.runs("map " + map, 40 + value - 1);
            Asked.due("key of map " + map, key, guard.place(map, 0, 0));
            Asked.due("key's last of map " + map, 1, guard.place(map, 0, key - 1));
            Asked.due("value of map " + map, 40, guard.place(map, 0, key));
            Asked.due("value's last of map " + map, 40 + value - 1, guard.place(map, 0, key + value - 1));
            row.steps.get(load)[3]++;
            row.fails("behind the value of map " + map, 4, load);
            row.steps.get(load)[3]--;
            row.steps.get(put - 4)[4]++;
            row.fails("behind the key of map " + map, 4, put);
            row.steps.get(put - 4)[4] -= 2;
            row.steps.get(put - 2)[4]++;
            row.fails("not all of the value of map " + map, 5, put);
        }
    }
}

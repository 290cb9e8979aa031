/** "Terms", sentence by sentence: the limits of PROGRAM, MAPS, PACKET, STACK, and numbers in memory. */
public final class EdgesOfTermsTest {
    public static void main(String[] args) {
        calls();
        program();
        farthestJumps();
        ints();
        longs();
        mapNumbers();
        mapSizes();
        smallestMap();
        greatestMap();
        placesAtFirst();
        packet();
        wholePacket();
        stack();
        stackOfEachRun();
        order();
        Asked.end();
    }

    private static Asked.Row row() {
        return new Asked.Row();
    }

    private static void calls() {
        Asked.says("An object is used for at most 512 calls after it has been made");
        FilterGuard guard = row().move(0, 6).exit().given();
        guard.check();
        for (int call = 4; call < 512; call++) {
            Asked.due("call " + call, 6, guard.run());
        }
        Asked.due("call 512", 6, guard.run());
    }

    private static void program() {
        Asked.says("PROGRAM: at most 200 INSTRUCTIONS (numbered from 0)");
        FilterGuard guard = new FilterGuard();
        for (int i = 0; i < 199; i++) {
            Asked.due("number", i, guard.add(16, 0, 0, 0, i));
        }
        Asked.due("199 are there", 199, guard.count(0));
        Asked.due("number of the 200th", 199, guard.add(113, 0, 0, 0, 0));
        Asked.due("200 are there", 200, guard.count(0));
        Asked.changesNothing("the 201st", guard, IllegalStateException.class, () -> guard.add(113, 0, 0, 0, 0));
        Asked.due("200 pass", 0, guard.check());
        Asked.due("200 are gone", 200, guard.count(7));
        Asked.due("run", 198, guard.run());
        Asked.due("200 are done", 200, guard.count(8));
        Asked.due("the last is FORETOLD", 198, guard.known(199, 0, 0));
        Asked.missing("no 201st", () -> guard.known(200, 0, 0));
        guard.clear();
        Asked.due("numbered from 0 behind clear", 0, guard.add(113, 0, 0, 0, 0));
    }

    private static void farthestJumps() {
        Asked.says("PROGRAM: at most 200 INSTRUCTIONS (numbered from 0)");
        FilterGuard guard = new FilterGuard();
        guard.add(64, 0, 0, 198, 0);
        guard.add(16, 0, 0, 0, 3);
        guard.add(113, 0, 0, 0, 0);
        for (int i = 3; i < 199; i++) {
            guard.add(113, 0, 0, 0, 0);
        }
        guard.add(64, 0, 0, -199, 0);
        Asked.due("from 0 to 199 and back", 0, guard.check());
        Asked.due("run", 3, guard.run());
        Asked.due("done", 4, guard.count(8));
    }

    private static void ints() {
        Asked.says("off, imm: ints");
        row().move(0, Integer.MAX_VALUE).exit().runs("greatest imm", 2147483647L);
        row().move(0, Integer.MIN_VALUE).exit().runs("least imm", -2147483648L);
        row().add(106, 10, 0, -4, Integer.MIN_VALUE).add(98, 0, 10, -4, 0).exit().runs("stored", 2147483648L);
        row().add(96, 0, 10, Integer.MAX_VALUE, 0).fails("greatest off", 4, 0);
        row().add(96, 0, 10, Integer.MIN_VALUE, 0).fails("least off", 4, 0);
        row().copy(6, 10).add(17, 6, 0, 0, 4096).add(96, 0, 6, Integer.MAX_VALUE, 0).fails("off doesn't wrap", 4, 2);
        row().copy(6, 10).add(17, 6, 0, 0, -4096).add(96, 0, 6, Integer.MIN_VALUE, 0).fails("off doesn't wrap", 4, 2);
        row().add(96, 0, 1, Integer.MIN_VALUE, 0).fails("least off of the PACKET", 4, 0);
        row().add(96, 0, 1, Integer.MAX_VALUE, 0).fails("greatest off of the PACKET", 4, 0);
        row().move(0, 0).add(64, 0, 0, Integer.MAX_VALUE, 0).exit().fails("greatest off of a jump", 1, 1);
        row().move(0, 0).add(64, 0, 0, Integer.MIN_VALUE, 0).exit().fails("least off of a jump", 1, 1);
    }

    private static void longs() {
        Asked.says("Registers hold longs.");
        for (long number : new long[] {Asked.LEAST, Asked.LEAST + 1, -1, 0, 1, Asked.LOW_32, Asked.LOW_32 + 1,
            Asked.GREATEST - 1, Asked.GREATEST}) {
            FilterGuard guard = row().constant(6, number).copy(0, 6).exit().runs("CONST", number);
            Asked.due("low", number, guard.known(6, 0, 0));
            Asked.due("high", number, guard.known(6, 0, 1));
            row().constant(1, number).copy(6, 1).call(4).copy(0, 6).exit().runs("NOTED", number);
        }
    }

    private static void mapNumbers() {
        Asked.says("MAPS 0 .. 3");
        FilterGuard guard = new FilterGuard();
        for (int map = 0; map <= 3; map++) {
            Asked.missing("before it is made", () -> guard.place(guard.count(1), 0, -1));
            Asked.due("number", map, guard.map(1, 1, 1));
            Asked.due("so many", map + 1, guard.count(1));
            Asked.due("it is there", 0, guard.place(map, 0, -1));
        }
        Asked.changesNothing("a fifth", guard, IllegalStateException.class, () -> guard.map(1, 1, 1));
        Asked.missing("no MAP 4", () -> guard.place(4, 0, -1));
        Asked.missing("no MAP -1", () -> guard.place(-1, 0, -1));
        guard.clear();
        Asked.due("numbered from 0 behind clear", 0, guard.map(1, 1, 1));
    }

    private static void mapSizes() {
        Asked.says("a key of 1 to 8 bytes, values of 1 to 64, 1 to 16 PLACES");
        int[][] out = {{0, 1, 1}, {9, 1, 1}, {1, 0, 1}, {1, 65, 1}, {1, 1, 0}, {1, 1, 17}, {-1, 1, 1}, {1, -1, 1},
            {1, 1, -1}, {Integer.MIN_VALUE, 1, 1}, {1, Integer.MIN_VALUE, 1}, {1, 1, Integer.MIN_VALUE},
            {Integer.MAX_VALUE, 1, 1}, {1, Integer.MAX_VALUE, 1}, {1, 1, Integer.MAX_VALUE}};
        FilterGuard guard = new FilterGuard();
        for (int[] o : out) {
            Asked.bad("map " + o[0] + " " + o[1] + " " + o[2], () -> guard.map(o[0], o[1], o[2]));
        }
        Asked.due("none came", 0, guard.count(1));
        int[][] in = {{1, 1, 1}, {8, 1, 1}, {1, 64, 1}, {1, 1, 16}, {8, 64, 16}, {2, 63, 15}, {7, 2, 2}};
        for (int[] s : in) {
            FilterGuard one = new FilterGuard();
            Asked.due("map " + s[0] + " " + s[1] + " " + s[2], 0, one.map(s[0], s[1], s[2]));
            Asked.due("its last place", 0, one.place(0, s[2] - 1, -1));
            Asked.missing("behind it", () -> one.place(0, s[2], -1));
            Asked.due("its last byte", 0, one.place(0, s[2] - 1, s[0] + s[1] - 1));
            Asked.missing("behind it", () -> one.place(0, s[2] - 1, s[0] + s[1]));
        }
    }

    /** PUT of key (as many bytes, all n) with value (all n + 1) in map 0, then what it answered. */
    private static Asked.Row put(int key, int value, int places, int n) {
        Asked.Row row = row().map(key, value, places);
        for (int b = 0; b < 64; b++) {
            row.add(104, 10, 0, -1 - b, n + 1);
        }
        // The key is read from where the value is, so its bytes are those too.
        return row.copy(2, 10).add(17, 2, 0, 0, -key).copy(3, 10).add(17, 3, 0, 0, -value)
            .add(114, 1, 0, 0, 0).call(2);
    }

    private static void smallestMap() {
        Asked.says("a key of 1 to 8 bytes, values of 1 to 64, 1 to 16 PLACES");
        FilterGuard guard = put(1, 1, 1, 4).exit().runs("the smallest map", 0);
        Asked.due("its key", 5, guard.place(0, 0, 0));
        Asked.due("its value", 5, guard.place(0, 0, 1));
        Asked.missing("no more", () -> guard.place(0, 0, 2));
        Asked.missing("no other place", () -> guard.place(0, 1, -1));
    }

    private static void greatestMap() {
        Asked.says("a key of 1 to 8 bytes, values of 1 to 64, 1 to 16 PLACES");
        FilterGuard guard = put(8, 64, 16, 254).exit().runs("the greatest map", 0);
        for (int i = 0; i < 72; i++) {
            Asked.due("byte " + i, 255, guard.place(0, 0, i));
        }
        Asked.missing("no more", () -> guard.place(0, 0, 72));
        Asked.due("the last place is empty", 0, guard.place(0, 15, -1));
    }

    private static void placesAtFirst() {
        Asked.says("each empty or with a key and a value");
        FilterGuard guard = new FilterGuard();
        guard.map(2, 2, 3);
        for (int p = 0; p < 3; p++) {
            Asked.due("empty", 0, guard.place(0, p, -1));
            for (int i = 0; i < 4; i++) {
                Asked.due("0 at first", 0, guard.place(0, p, i));
            }
        }
    }

    private static void packet() {
        Asked.says("PACKET: at most 400 bytes");
        FilterGuard guard = new FilterGuard();
        for (int n = 1; n <= 20; n++) {
            Asked.due("length", 20 * n, guard.feed(n, n, n, n, n));
        }
        Asked.changesNothing("420", guard, IndexOutOfBoundsException.class, () -> guard.feed(1, 2, 3, 4, 5));
        guard.end(1);
        Asked.changesNothing("419", guard, IndexOutOfBoundsException.class, () -> guard.feed(1, 2, 3, 4, 5));
        guard.end(18);
        Asked.changesNothing("401", guard, IndexOutOfBoundsException.class, () -> guard.feed(1, 2, 3, 4, 5));
        guard.end(1);
        Asked.due("400 again", 400, guard.feed(0, 0, 0, 0, 9));
        Asked.due("its last", 9, guard.letter(399));
        Asked.missing("behind it", () -> guard.letter(400));
    }

    private static void wholePacket() {
        Asked.says("PACKET: at most 400 bytes");
        Asked.Row row = row().copy(7, 1).add(17, 7, 0, 0, 400).move(0, -5).add(69, 7, 2, 3, 0)
            .add(96, 0, 1, 399, 0).add(104, 1, 0, 399, 77).add(104, 1, 0, 0, 78).exit();
        FilterGuard guard = row.passes("all 400 of them");
        for (int n = 0; n < 20; n++) {
            guard.feed(1, 1, 1, 1, 200);
        }
        Asked.due("the last byte", 200, guard.run());
        Asked.due("is written", 77, guard.letter(399));
        Asked.due("as is the first", 78, guard.letter(0));
        Asked.due("no stray", 0, guard.count(9));
        guard.end(1);
        Asked.due("399 aren't so long", -5, guard.run());
        row().copy(7, 1).add(17, 7, 0, 0, 401).move(0, -5).add(69, 7, 2, 1, 0).add(96, 0, 1, 400, 0).exit()
            .runs("one that can't be so long passes, but never goes there", -5);
    }

    private static void stack() {
        Asked.says("STACK: 64 bytes");
        row().add(104, 10, 0, -64, 9).add(96, 0, 10, -64, 0).exit().runs("its first byte", 9);
        row().add(104, 10, 0, -1, 9).add(96, 0, 10, -1, 0).exit().runs("its last byte", 9);
        row().add(104, 10, 0, -65, 9).move(0, 0).exit().fails("before its first", 4, 0);
        row().add(104, 10, 0, 0, 9).move(0, 0).exit().fails("behind its last", 4, 0);
        Asked.Row all = row().move(0, 0);
        for (int c = -64; c < 0; c += 8) {
            all.add(107, 10, 0, c, c);
        }
        for (int c = -64; c < 0; c += 8) {
            all.add(99, 6, 10, c, 0).add(1, 0, 6, 0, 0);
        }
        all.exit().runs("each eight for itself", -8 * 36);
    }

    private static void stackOfEachRun() {
        Asked.says("all 0 as a run begins");
        row().add(96, 0, 10, -1, 0).exit().fails("what's 0 at first is NONE all the same", 5, 0);
        FilterGuard guard = row().copy(7, 1).add(17, 7, 0, 0, 1).move(0, 3).add(69, 7, 2, 2, 0)
            .add(96, 0, 1, 0, 0).add(107, 10, 0, -8, 1).add(107, 10, 0, -8, 0).add(103, 10, 0, -8, 0)
            .add(99, 0, 10, -8, 0).exit().passes("what a run before has left");
        guard.feed(0x44000000, 0, 0, 0, 0);
        Asked.due("first run", 0x44, guard.run());
        guard.end(20);
        Asked.due("second run", 3, guard.run());
    }

    private static void order() {
        Asked.says("Numbers of 2, 4, 8 bytes in memory: the lowest first.");
        row().add(105, 10, 0, -2, 0x1234).add(96, 0, 10, -2, 0).exit().runs("2: lowest", 0x34);
        row().add(105, 10, 0, -2, 0x1234).add(96, 0, 10, -1, 0).exit().runs("2: highest", 0x12);
        for (int b = 0; b < 4; b++) {
            row().add(106, 10, 0, -4, 0x44332211).add(96, 0, 10, -4 + b, 0).exit().runs("4: byte " + b, 0x11 * (b + 1));
        }
        for (int b = 0; b < 8; b++) {
            row().constant(6, 0x8877665544332211L).add(103, 10, 6, -8, 0).add(96, 0, 10, -8 + b, 0).exit()
                .runs("8: byte " + b, 0x11 * (b + 1));
            Asked.Row load = row();
            for (int c = 0; c < 8; c++) {
                load.add(104, 10, 0, -8 + c, c == b ? 0xFF : 0);
            }
            load.add(99, 0, 10, -8, 0).exit().runs("8: byte " + b + " of a LOAD", 0xFFL << 8 * b);
        }
        FilterGuard packet = row().copy(7, 1).add(17, 7, 0, 0, 8).move(0, 0).add(69, 7, 2, 1, 0).add(99, 0, 1, 0, 0).exit()
            .passes("in the PACKET");
        packet.feed(0x11223344, 0x55667788, 0, 0, 0);
        Asked.due("in the PACKET", 0x8877665544332211L, packet.run());
    }
}

import java.util.Random;

/**
 * Promises 9, 13 and 14: programs made by chance that pass are run, beside a model of their own;
 * and rows of numbers that are hardly programs never make a call throw what it may not.
 */
public final class RunTest {
    private static final int LENGTH = 24;
    private static final int[] NUMBERS = {0, 7, 8, 9};
    private static final long[] TELLING = {0, 1, -1, 2, 31, 32, 63, 64, 255, 65536, Integer.MAX_VALUE, Integer.MIN_VALUE};

    private final Random random;
    private final Asked.Row row = new Asked.Row();

    private RunTest(Random random) {
        this.random = random;
    }

    public static void main(String[] args) {
        int passed = 0;
        Random random = new Random(5);
        for (int n = 0; n < 3000; n++) {
            passed += new RunTest(random).go("program " + n) ? 1 : 0;
        }
        Asked.due("a third of them pass at least", 1, passed >= 1000 ? 1 : 0);
        System.out.println(passed + " programs passed");
        int odd = 0;
        for (int n = 0; n < 30000; n++) {
            odd += garbage(random) ? 1 : 0;
        }
        System.out.println(odd + " odd rows passed");
        Asked.end();
    }

    private int any(int... of) {
        return of[random.nextInt(of.length)];
    }

    private int someImm() {
        return random.nextInt(3) == 0 ? random.nextInt() : (int) TELLING[random.nextInt(TELLING.length)];
    }

    private boolean go(String what) {
        write();
        FilterGuard guard = row.given();
        if (guard.check() != 0) {
            return false;
        }
        long[][][] known = foretold();
        Model model = new Model(row);
        model.seed = random.nextLong();
        guard.seed(model.seed);
        for (int n = 0; n < 4; n++) {
            feed(random, guard, model, n == 0 ? LENGTH - 1 : 20 + random.nextInt(20));
            long due = model.run((i, registers) -> foretold(what, known[i], i, registers));
            compare(what, guard, model, due);
        }
        return true;
    }

    /** Each register that is a NUMBER lies between what's FORETOLD: low, high, 1. */
    static void foretold(String what, long[][] known, int i, Model.Value[] registers) {
        for (int r = 0; r < 11; r++) {
            if (registers[r] != null && registers[r].isNumber()) {
                long[] k = known[r];
                long v = registers[r].number;
                if (k[2] != 1 || v < k[0] || v > k[1]) {
                    Asked.due(what + ": register " + r + " at " + i + " in " + k[0] + " .. " + k[1], 1, 0);
                }
            }
        }
    }

    /** An object answers for 512 calls alone, so that several are asked. */
    private long[][][] foretold() {
        long[][][] known = new long[row.size()][11][3];
        FilterGuard guard = null;
        int asked = 0;
        for (int i = 0; i < row.size(); i++) {
            if (guard == null || asked > 200) {
                guard = row.given();
                guard.check();
                asked = 0;
            }
            for (int r = 0; r < 11; r++) {
                for (int w = 0; w < 3; w++) {
                    known[i][r][w] = guard.known(i, r, w);
                    asked++;
                }
            }
        }
        return known;
    }

    /** A new PACKET of chance, of 40 bytes at most, for both. */
    static void feed(Random random, FilterGuard guard, Model model, int length) {
        guard.end(guard.count(2));
        byte[] bytes = new byte[40];
        random.nextBytes(bytes);
        for (int b = 0; b < 40; b += 20) {
            int[] n = new int[5];
            for (int k = 0; k < 20; k++) {
                n[k / 4] = n[k / 4] << 8 | bytes[b + k] & 255;
            }
            guard.feed(n[0], n[1], n[2], n[3], n[4]);
        }
        guard.end(40 - length);
        model.packet = java.util.Arrays.copyOf(bytes, length);
    }

    /** A run of the class must do what the model's has done. */
    static void compare(String what, FilterGuard guard, Model model, long due) {
        Asked.due(what + ": run", due, guard.run());
        Asked.due(what + ": done", model.done, guard.count(8));
        Asked.due(what + ": strays", 0, guard.count(9));
        Asked.due(what + ": noted", model.log.size(), guard.count(3));
        for (int n = 0; n < Math.min(5, model.log.size()); n++) {
            Asked.due(what + ": log " + n, model.log.get(n), guard.log(n));
        }
        for (int n = 0; n < model.packet.length; n++) {
            Asked.due(what + ": letter " + n, model.packet[n] & 255, guard.letter(n));
        }
        for (int m = 0; m < model.maps.size(); m++) {
            for (int p = 0; p < model.taken[m].length; p++) {
                Asked.due(what + ": place", model.taken[m][p] ? 1 : 0, guard.place(m, p, -1));
                int key = model.maps.get(m)[0];
                Asked.due(what + ": key", model.keys[m][p][0] & 255, guard.place(m, p, 0));
                Asked.due(what + ": value", model.values[m][p][0] & 255, guard.place(m, p, key));
            }
        }
    }

    /** Registers 0, 7, 8 and 9 are numbers between any two parts, 6 is the packet's begin. */
    private void write() {
        int maps = 1 + random.nextInt(2);
        for (int m = 0; m < maps; m++) {
            row.map(1 + random.nextInt(2), 1 + random.nextInt(16), 1 + random.nextInt(3));
        }
        row.copy(6, 1).copy(7, 1).add(17, 7, 0, 0, LENGTH).move(0, someImm());
        int guardAt = row.size();
        row.add(69, 7, 2, 0, 0);
        for (int r = 7; r <= 9; r++) {
            row.add(96 + random.nextInt(4), r, 6, random.nextInt(16), 0);
        }
        for (int e = 1; e <= 4; e++) {
            row.add(107, 10, 0, -8 * e, someImm());
        }
        int parts = 3 + random.nextInt(8);
        int[] starts = new int[parts + 1];
        int[] jumps = new int[parts];
        for (int p = 0; p < parts; p++) {
            starts[p] = row.size();
            jumps[p] = part();
        }
        starts[parts] = row.size();
        row.exit();
        row.steps.get(guardAt)[3] = row.size() - 1 - guardAt - 1;
        for (int p = 0; p < parts; p++) {
            if (jumps[p] >= 0) {
                int to = p + 1 + random.nextInt(parts - p);
                row.steps.get(jumps[p])[3] = starts[to] - jumps[p] - 1;
            }
        }
    }

    /** Answers where a jump stands whose target is still open, or -1. */
    private int part() {
        switch (random.nextInt(12)) {
            case 0: case 1: case 2: operation(any(NUMBERS)); return -1;
            case 3: packet(); return -1;
            case 4: stack(); return -1;
            case 5: case 6:
                int at = row.size();
                row.add(65 + random.nextInt(11) + 16 * random.nextInt(2), any(NUMBERS), any(NUMBERS), 0, someImm());
                return at;
            case 7: row.copy(1, any(NUMBERS)).call(4); return -1;
            case 8: row.call(5); return -1;
            case 9: loop(); return -1;
            case 10: heldPointer(); return -1;
            default: map(); return -1;
        }
    }

    private void operation(int dst) {
        int sort = random.nextInt(13) + 16 * random.nextInt(2) + 32 * random.nextInt(2);
        row.add(sort, dst, any(NUMBERS), random.nextInt(), someImm());
    }

    private void packet() {
        int size = random.nextInt(4);
        int mask = any(0, 1, 7);
        row.copy(3, any(NUMBERS)).add(22, 3, 0, 0, mask).copy(4, 6).add(1, 4, 3, 0, 0);
        int off = random.nextInt(LENGTH - mask - (1 << size) + 1);
        if (random.nextBoolean()) {
            row.add(96 + size, any(NUMBERS), 4, off, 0);
        } else {
            row.add(any(100, 104) + size, 4, any(NUMBERS), off, someImm());
        }
    }

    private void stack() {
        int size = random.nextInt(4);
        int off = random.nextBoolean() ? -8 * (1 + random.nextInt(4)) : -32 + random.nextInt(33 - (1 << size));
        if (random.nextBoolean()) {
            row.add(96 + size, any(NUMBERS), 10, off, 0);
        } else {
            row.add(any(100, 104) + size, 10, any(NUMBERS), off, someImm());
        }
    }

    /** Its operations never have 9 as their dst, so that it ends. */
    private void loop() {
        row.move(9, 0);
        int start = row.size();
        operation(any(0, 7, 8));
        operation(any(0, 7, 8));
        row.add(17, 9, 0, 0, 1);
        row.add(83, 9, 0, start - row.size() - 1, 1 + random.nextInt(6));
    }

    private void heldPointer() {
        row.add(103, 10, 6, -40, 0).add(99, 4, 10, -40, 0).add(96 + random.nextInt(4), any(NUMBERS), 4, 3, 0);
        row.add(103, 10, any(NUMBERS), -40, 0);
    }

    private void map() {
        int map = random.nextInt(row.maps.size());
        int call = 1 + random.nextInt(3);
        row.copy(5, any(NUMBERS)).add(22, 5, 0, 0, 3).add(103, 10, 5, -8, 0);
        row.copy(2, 10).add(17, 2, 0, 0, -8).copy(3, 10).add(17, 3, 0, 0, -32).add(114, 1, 0, 0, map).call(call);
        if (call == 1) {
            // One copy in a register, one on the stack: what tells of one tells of all.
            row.copy(5, 0).add(103, 10, 0, -48, 0).add(81, 5, 0, 4, 0);
            row.add(99, 3, 10, -48, 0).add(96, 7, 3, 0, 0).add(104, 3, 0, 0, someImm()).copy(0, 7);
            row.add(82, 7, 0, 1, 3).move(0, 9);
        }
    }

    /** Rows of near-instructions: nothing but what the face says may come of them. */
    private static boolean garbage(Random random) {
        FilterGuard guard = new FilterGuard();
        guard.map(1 + random.nextInt(8), 1 + random.nextInt(64), 1 + random.nextInt(16));
        int size = 1 + random.nextInt(12);
        for (int i = 0; i < size; i++) {
            int sort = random.nextInt(4) == 0 ? 113 : random.nextInt(40) == 0 ? random.nextInt() : random.nextInt(115);
            int dst = random.nextInt(50) == 0 ? random.nextInt() : random.nextInt(11);
            int imm = random.nextInt(4) == 0 ? random.nextInt() : random.nextInt(6);
            int off = random.nextInt(5) == 0 ? random.nextInt(20) - 80 : random.nextInt(size);
            guard.add(sort, dst, random.nextInt(11), off, imm);
        }
        int fault = guard.check();
        Asked.due("fault 0 .. 8", 1, fault >= 0 && fault <= 8 ? 1 : 0);
        Asked.due("as count tells it", fault, guard.count(5));
        if (fault != 0) {
            Asked.due("at an instruction", 1, guard.count(6) >= 0 && guard.count(6) < size ? 1 : 0);
            return false;
        }
        guard.run();
        guard.feed(1, 2, 3, 4, 5);
        guard.run();
        Asked.due("garbage: strays", 0, guard.count(9));
        return true;
    }
}

import java.util.Random;

/**
 * Promises 4, 9, 13 and 14: programs that grow by chance, mostly by what passes, and what CHECKING
 * says of each of them, beside a second telling of it; those that pass are run beside the model.
 */
public final class OracleTest {
    private static final int[] TELLING = {0, 1, -1, 2, 3, 4, 7, 8, 9, 16, 20, 31, 32, 33, 63, 64, 65, 255, 256, 4095, 4096,
        4097, -4095, -4096, -4097, -8, -16, -63, -64, -65, Integer.MAX_VALUE, Integer.MIN_VALUE};

    private final Random random;
    private final int[] faults;
    /** The registers that steps choose among, or null for all; with few, LOOKS are many too. */
    private int[] few = null;

    private OracleTest(Random random, int[] faults) {
        this.random = random;
        this.faults = faults;
    }

    public static void main(String[] args) {
        int[] faults = new int[9];
        Random random = new Random(11);
        for (int n = 0; n < 1500; n++) {
            new OracleTest(random, faults).grow("program " + n);
        }
        for (int n = 0; n < 1500; n++) {
            OracleTest crowded = new OracleTest(random, faults);
            crowded.few = new int[] {0, 6, 7, 0, 6, 7, 3, 10};
            crowded.grow("crowded program " + n);
        }
        for (int n = 0; n < 4000; n++) {
            new OracleTest(random, faults).scatter("row " + n);
        }
        StringBuilder told = new StringBuilder("faults 0 to 8:");
        for (int fault = 0; fault <= 8; fault++) {
            told.append(" ").append(faults[fault]);
            Asked.due("fault " + fault + " is met", 1, faults[fault] > 0 ? 1 : 0);
        }
        System.out.println(told);
        Asked.end();
    }

    private int any(int... of) {
        return of[random.nextInt(of.length)];
    }

    private int someImm() {
        return random.nextInt(6) == 0 ? random.nextInt() : any(TELLING);
    }

    private int someRegister() {
        return few == null ? random.nextInt(11) : any(few);
    }

    /** Register 0 is a MAYBE of a MAP, with its key there or not, and has a copy somewhere or not. */
    private void beginWithLook(Asked.Row row) {
        row.map(1, any(1, 2, 4, 8, 9, 16), 1 + random.nextInt(2));
        for (int c = -64; c < -16; c += 8) {
            row.add(107, 10, 0, c, random.nextInt(3));
        }
        if (random.nextInt(3) > 0) {
            row.copy(2, 10).add(17, 2, 0, 0, -56).copy(3, 10).add(17, 3, 0, 0, -48).add(114, 1, 0, 0, 0).call(2);
        }
        for (int looks = random.nextInt(2); looks >= 0; looks--) {
            row.copy(2, 10).add(17, 2, 0, 0, any(-56, -64)).add(114, 1, 0, 0, 0).call(1);
            row.steps.add(any(0, 1) == 0 ? new int[] {0, any(6, 7), 0, 0, 0} : new int[] {103, 10, 0, any(-8, -16, -24), 0});
        }
    }

    private void begin(Asked.Row row) {
        if (few != null) {
            beginWithLook(row);
            return;
        }
        int maps = random.nextInt(3);
        for (int m = 0; m < maps; m++) {
            row.map(1 + random.nextInt(8), 1 + random.nextInt(20), 1 + random.nextInt(3));
        }
        if (random.nextInt(3) > 0) {
            row.copy(6, 1).copy(7, 10).add(17, 7, 0, 0, -8 * random.nextInt(9));
        }
        if (random.nextInt(3) > 0) {
            row.call(5).copy(8, 0);
        }
        if (random.nextInt(3) > 0) {
            row.all(9);
        }
        if (random.nextInt(2) == 0) {
            row.add(107, 10, 0, -8, someImm()).add(107, 10, 0, -16, someImm());
        }
    }

    /** Steps are put at the end, or before any other one, and stay if the row passes, or seldom else. */
    private void grow(String what) {
        Asked.Row row = new Asked.Row();
        begin(row);
        row.move(0, someImm()).exit();
        int tries = 20 + random.nextInt(30);
        for (int t = 0; t < tries; t++) {
            int at = random.nextInt(3) == 0 ? random.nextInt(row.size()) : row.size() - 2;
            int[] step = someStep(row, at);
            row.steps.add(at, step);
            shift(row, at, 1);
            int fault = compare(what + ", try " + t, row);
            if (fault != 0 && random.nextInt(25) > 0) {
                row.steps.remove(at);
                shift(row, at, -1);
            }
        }
        compareKnown(what, row);
    }

    /** Jumps over a step that came or went lead where they led before. */
    private static void shift(Asked.Row row, int at, int by) {
        for (int i = 0; i < row.size(); i++) {
            int[] s = row.steps.get(i);
            int was = by > 0 ? i > at ? i - 1 : i : i >= at ? i + 1 : i;
            boolean isNew = by > 0 && i == at;
            if (s[0] < 64 || s[0] > 91 || isNew) {
                continue;
            }
            int to = was + 1 + s[3];
            int now = by > 0 ? to >= at ? to + 1 : to : to > at ? to - 1 : to;
            s[3] = now - i - 1;
        }
    }

    private int[] someStep(Asked.Row row, int at) {
        int dst = someRegister();
        int src = random.nextInt(8) == 0 ? dst : someRegister();
        int off = any(0, 0, -8, -16, -64, random.nextInt(80) - 72, random.nextInt(20), someImm());
        if (few != null && random.nextInt(2) == 0) {
            return crowdedStep(row, at, dst, src);
        }
        switch (random.nextInt(11)) {
            case 0: return new int[] {0, dst, src, off, 0};
            case 1: return new int[] {any(1, 2, 17, 18), dst, src, off, someImm()};
            case 2: case 3:
                return new int[] {random.nextInt(13) + 16 * random.nextInt(2) + 32 * random.nextInt(2), dst, src, off, someImm()};
            case 4: case 5: return new int[] {65 + random.nextInt(11) + 16 * random.nextInt(2), dst, src, jump(row, at), any(0, someImm())};
            case 6: return new int[] {any(67, 68, 69, 70), any(1, 2, 6, dst), any(1, 2, 6, src), jump(row, at), 0};
            case 7: return new int[] {96 + random.nextInt(4), dst, any(10, 7, src), off, 0};
            case 8: return new int[] {100 + random.nextInt(8), any(10, 7, dst), src, off, someImm()};
            case 9: return new int[] {any(64, 112, 112, 112, 113, 81, 82), dst, src, jump(row, at), random.nextInt(6)};
            default: return new int[] {114, any(1, dst), src, off, random.nextInt(4) == 0 ? someImm() : random.nextInt(2)};
        }
    }

    /** What MAYBES and what was HELD are met by: moves, STORES and LOADS of eights and parts of them, and 0. */
    private int[] crowdedStep(Asked.Row row, int at, int dst, int src) {
        int eight = any(-8, -16, -24);
        switch (random.nextInt(7)) {
            case 0: return new int[] {0, dst, src, 0, 0};
            case 1: return new int[] {103, 10, src, eight, 0};
            case 2: return new int[] {99, dst, 10, eight, 0};
            case 3: return new int[] {any(81, 82), dst, src, jump(row, at), 0};
            case 4: return new int[] {any(100, 101, 102, 104, 105, 106), 10, src, eight + random.nextInt(8), someImm()};
            case 5: return new int[] {96 + random.nextInt(4), dst, any(10, src), any(0, 1, eight + random.nextInt(8)), 0};
            default: return new int[] {100 + random.nextInt(8), src, dst, random.nextInt(9), someImm()};
        }
    }

    private int jump(Asked.Row row, int at) {
        if (random.nextInt(12) == 0) {
            return random.nextInt(8) - 5;
        }
        return random.nextInt(Math.max(1, row.size() - at));
    }

    /** Rows of any steps at all, hardly ever programs. */
    private void scatter(String what) {
        Asked.Row row = new Asked.Row();
        begin(row);
        int more = 1 + random.nextInt(12);
        for (int n = 0; n < more; n++) {
            int[] step = someStep(row, row.size());
            if (random.nextInt(30) == 0) {
                step[random.nextInt(3)] = any(-1, 10, 11, 13, 61, 76, 80, 92, 95, 108, 111, 115, Integer.MIN_VALUE);
            }
            row.steps.add(step);
        }
        if (random.nextInt(2) == 0) {
            row.exit();
        }
        compare(what, row);
    }

    private int compare(String what, Asked.Row row) {
        Oracle oracle = new Oracle(row);
        int due = oracle.check();
        FilterGuard guard = row.given();
        int got = guard.check();
        Asked.due(what + ": check", due, got);
        Asked.due(what + ": passed", due == 0 ? 1 : 0, guard.count(4));
        Asked.due(what + ": fault", due, guard.count(5));
        Asked.due(what + ": fault's instruction", oracle.faultAt, guard.count(6));
        Asked.due(what + ": gone", oracle.gone, guard.count(7));
        faults[due]++;
        if (due == 0 && got == 0) {
            guard.run();
            Asked.due(what + ": strays", 0, guard.count(9));
        }
        return due;
    }

    private void compareRuns(String what, Asked.Row row, Oracle oracle) {
        FilterGuard guard = row.given();
        if (guard.check() != 0) {
            return;
        }
        Model model = new Model(row);
        model.seed = random.nextLong();
        guard.seed(model.seed);
        for (int n = 0; n < 4; n++) {
            RunTest.feed(random, guard, model, any(0, 1, 4, 8, 9, 20, 33, 40));
            long due = model.run((i, registers) -> RunTest.foretold(what, oracle.foretold[i], i, registers));
            RunTest.compare(what, guard, model, due);
        }
    }

    private void compareKnown(String what, Asked.Row row) {
        Oracle oracle = new Oracle(row);
        if (oracle.check() != 0) {
            return;
        }
        compareRuns(what, row, oracle);
        for (int i = 0; i < row.size(); i++) {
            FilterGuard guard = row.given();
            if (guard.check() != 0) {
                return;
            }
            Asked.due(what + ": gone " + i, oracle.often[i], guard.known(i, -1, 3));
            for (int r = 0; r < 11; r++) {
                for (int told = 0; told < 3; told++) {
                    Asked.due(what + ": known " + i + " " + r + " " + told, oracle.foretold[i][r][told],
                        guard.known(i, r, told));
                }
            }
        }
    }
}

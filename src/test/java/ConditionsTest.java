import java.util.Random;

/** Promises 4, 9 and 13, CONDITIONS: which sides can be, what's KNOWN on them, and which one a run takes. */
public final class ConditionsTest {
    private static final long[] ENDS = {0, 1, 2, 3, 4, 5, 6, -1, -2, -3, -4, 100, Asked.GREATEST, Asked.GREATEST - 1,
        Asked.LEAST, Asked.LEAST + 1, Asked.LOW_32};

    public static void main(String[] args) {
        byHand();
        sameByHand();
        known();
        outcomes();
        lengths();
        maybes();
        Asked.end();
    }

    static boolean holds(int relation, long x, long y) {
        int unsigned = Long.compareUnsigned(x, y);
        boolean[] all = {x == y, x != y, unsigned < 0, unsigned <= 0, unsigned > 0, unsigned >= 0,
            x < y, x <= y, x > y, x >= y, (x & y) != 0};
        return all[relation - 65];
    }

    /** The relation that holds where this one doesn't; 75 has none. */
    static int opposite(int relation) {
        int[] all = {66, 65, 70, 69, 68, 67, 74, 73, 72, 71};
        return all[relation - 65];
    }

    /** x.low, x.high, y.low, y.high where the relation holds, or null where it can't. */
    static long[] due(int relation, long[] x, long[] y, boolean same) {
        long[] r = {x[0], x[1], y[0], y[1]};
        switch (relation) {
            case 65:
                r = new long[] {Math.max(x[0], y[0]), Math.min(x[1], y[1]), Math.max(x[0], y[0]), Math.min(x[1], y[1])};
                break;
            case 66:
                if (x[0] == x[1]) {
                    r[2] += y[0] == x[0] ? 1 : 0;
                    r[3] -= y[1] == x[0] ? 1 : 0;
                } else if (y[0] == y[1]) {
                    r[0] += x[0] == y[0] ? 1 : 0;
                    r[1] -= x[1] == y[0] ? 1 : 0;
                }
                break;
            case 67: case 68:
                r = below(x, y, relation == 67, false);
                break;
            case 69: case 70:
                r = turned(below(y, x, relation == 69, false));
                break;
            case 71: case 72:
                r = below(x, y, relation == 71, true);
                break;
            case 73: case 74:
                r = turned(below(y, x, relation == 73, true));
                break;
            default:
        }
        if (r != null && same) {
            long low = Math.max(r[0], r[2]);
            long high = Math.min(r[1], r[3]);
            r = new long[] {low, high, low, high};
        }
        return r == null || r[0] > r[1] || r[2] > r[3] ? null : r;
    }

    private static long[] below(long[] a, long[] b, boolean strict, boolean signed) {
        if (strict && (b[1] == Asked.LEAST || a[0] == Asked.GREATEST) && (signed || a[0] >= 0 && b[0] >= 0)) {
            return null;
        }
        long less = strict ? 1 : 0;
        if (signed || a[0] >= 0 && b[0] >= 0) {
            return new long[] {a[0], Math.min(a[1], b[1] - less), Math.max(b[0], a[0] + less), b[1]};
        }
        if (b[0] >= 0) {
            return new long[] {0, Math.min(a[1], b[1] - less), b[0], b[1]};
        }
        return new long[] {a[0], a[1], b[0], b[1]};
    }

    private static long[] turned(long[] r) {
        return r == null ? null : new long[] {r[2], r[3], r[0], r[1]};
    }

    private static void side(FilterGuard guard, String what, int at, int src, long[] due) {
        Asked.due(what + ": gone", due == null ? 0 : 1, guard.known(at, 0, 3));
        Asked.due(what + ": dst's low", due == null ? 0 : due[0], guard.known(at, 5, 0));
        Asked.due(what + ": dst's high", due == null ? 0 : due[1], guard.known(at, 5, 1));
        if (src >= 0) {
            Asked.due(what + ": src's low", due == null ? 0 : due[2], guard.known(at, src, 0));
            Asked.due(what + ": src's high", due == null ? 0 : due[3], guard.known(at, src, 1));
        }
    }

    static void ask(int relation, long[] x, long[] y, boolean same, long[] next, long[] jump) {
        int src = same ? 5 : 6;
        Asked.Row row = new Asked.Row().range(5, x[0], x[1]);
        if (!same) {
            row.range(6, y[0], y[1]);
        }
        tell(row, relation, src, 0, "relation " + relation + " of " + x[0] + " .. " + x[1] + " and "
            + (same ? "itself" : y[0] + " .. " + y[1]), next, jump);
        if (y[0] == y[1] && y[0] == (int) y[0] && !same) {
            tell(new Asked.Row().range(5, x[0], x[1]), relation + 16, -1, (int) y[0],
                "relation " + (relation + 16) + " of " + x[0] + " .. " + x[1] + " and " + y[0], next, jump);
        }
    }

    private static void tell(Asked.Row row, int sort, int src, int imm, String what, long[] next, long[] jump) {
        int at = row.size();
        row.add(sort, 5, src < 0 ? 99 : src, 2, imm).move(0, 0).exit().move(0, 1).exit();
        FilterGuard guard = row.given();
        Asked.due(what + ": check", 0, guard.check());
        side(guard, what + ", next side", at + 1, src, next);
        side(guard, what + ", other side", at + 3, src, jump);
    }

    static void hand(int relation, long[] x, long[] y, long[] next, long[] jump) {
        ask(relation, x, y, false, next, jump);
    }

    static long[] r(long... ends) {
        return ends;
    }

    private static void byHand() {
        hand(65, r(0, 9), r(5, 20), r(0, 9, 5, 20), r(5, 9, 5, 9));
        hand(65, r(0, 4), r(5, 20), r(0, 4, 5, 20), null);
        hand(65, r(0, 4), r(4, 4), r(0, 3, 4, 4), r(4, 4, 4, 4));
        hand(65, r(4, 4), r(4, 4), null, r(4, 4, 4, 4));
        hand(66, r(0, 4), r(0, 0), r(0, 0, 0, 0), r(1, 4, 0, 0));
        hand(66, r(7, 7), r(6, 7), r(7, 7, 7, 7), r(7, 7, 6, 6));
        hand(66, r(0, 4), r(2, 2), r(2, 2, 2, 2), r(0, 4, 2, 2));
        hand(71, r(0, 9), r(5, 7), r(5, 9, 5, 7), r(0, 6, 5, 7));
        hand(71, r(0, 9), r(-5, 4), r(0, 9, -5, 4), r(0, 3, 1, 4));
        hand(72, r(0, 9), r(-5, 4), r(0, 9, -5, 4), r(0, 4, 0, 4));
        hand(73, r(-3, 9), r(-5, 4), r(-3, 4, -3, 4), r(-3, 9, -5, 4));
        hand(74, r(-3, 9), r(5, 5), r(-3, 4, 5, 5), r(5, 9, 5, 5));
        hand(67, r(0, 9), r(5, 7), r(5, 9, 5, 7), r(0, 6, 5, 7));
        hand(67, r(-4, 9), r(5, 7), r(-4, 9, 5, 7), r(0, 6, 5, 7));
        hand(67, r(-4, -1), r(5, 7), r(-4, -1, 5, 7), null);
        hand(68, r(-4, 9), r(0, 0), r(-4, 9, 0, 0), r(0, 0, 0, 0));
        hand(67, r(-4, 9), r(0, 0), r(-4, 9, 0, 0), null);
        hand(69, r(5, 7), r(-4, 9), r(5, 7, -4, 9), r(5, 7, 0, 6));
        hand(70, r(-4, 9), r(5, 7), r(0, 6, 5, 7), r(-4, 9, 5, 7));
        hand(67, r(-4, 9), r(-5, 7), r(-4, 9, -5, 7), r(-4, 9, -5, 7));
        hand(75, r(0, 9), r(0, 0), r(0, 9, 0, 0), r(0, 9, 0, 0));
        hand(75, r(4, 4), r(3, 3), r(4, 4, 3, 3), null);
        hand(75, r(4, 4), r(6, 6), null, r(4, 4, 6, 6));
    }

    private static void sameByHand() {
        ask(71, r(0, 9), r(0, 9), true, r(0, 9, 0, 9), r(1, 8, 1, 8));
        ask(71, r(0, 1), r(0, 1), true, r(0, 1, 0, 1), null);
        ask(72, r(0, 1), r(0, 1), true, null, r(0, 1, 0, 1));
        ask(65, r(0, 1), r(0, 1), true, r(0, 1, 0, 1), r(0, 1, 0, 1));
        ask(65, r(1, 1), r(1, 1), true, null, r(1, 1, 1, 1));
        ask(67, r(-1, 1), r(-1, 1), true, r(-1, 1, -1, 1), r(-1, 1, -1, 1));
    }

    private static long someEnd(Random random) {
        return random.nextInt(5) == 0 ? random.nextLong() >> random.nextInt(64) : ENDS[random.nextInt(ENDS.length)];
    }

    private static long[] someRange(Random random) {
        long a = someEnd(random);
        long b = random.nextInt(3) == 0 ? a : someEnd(random);
        return new long[] {Math.min(a, b), Math.max(a, b)};
    }

    private static void known() {
        Random random = new Random(3);
        for (int n = 0; n < 300; n++) {
            for (int relation = 65; relation <= 75; relation++) {
                long[] x = someRange(random);
                boolean same = random.nextInt(4) == 0;
                long[] y = same ? x : someRange(random);
                boolean sure = x[0] == x[1] && y[0] == y[1];
                boolean so = holds(relation, x[0], y[0]);
                long[] whole = {x[0], x[1], y[0], y[1]};
                long[] next = sure ? so ? null : whole
                    : relation == 75 ? whole : due(opposite(relation), x, y, same);
                long[] jump = sure ? so ? whole : null : relation == 75 ? whole : due(relation, x, y, same);
                ask(relation, x, y, same, next, jump);
            }
        }
    }

    private static void outcomes() {
        Random random = new Random(4);
        for (int relation = 65; relation <= 75; relation++) {
            FilterGuard guard = new Asked.Row().copy(6, 1).copy(7, 1).add(17, 7, 0, 0, 16).move(0, 7)
                .add(69, 7, 2, 5, 0).add(99, 3, 6, 0, 0).add(99, 4, 6, 8, 0).move(0, 1).add(relation, 3, 4, 1, 0)
                .move(0, 0).exit().passes("outcomes of " + relation);
            for (int n = 0; n < 60; n++) {
                long x = someEnd(random);
                long y = random.nextInt(4) == 0 ? x : someEnd(random);
                guard.end(guard.count(2));
                guard.feed(swapped(x), swapped(x >> 32), swapped(y), swapped(y >> 32), 0);
                Asked.due(x + " " + relation + " " + y, holds(relation, x, y) ? 1 : 0, guard.run());
                int imm = (int) someEnd(random);
                Asked.due(x + " " + (relation + 16) + " " + imm, holds(relation, x, imm) ? 1 : 0,
                    new Asked.Row().constant(6, x).move(0, 1).add(relation + 16, 6, 0, 1, imm).move(0, 0).exit()
                        .passes("imm").run());
            }
            Asked.due("strays", 0, guard.count(9));
            guard.end(10);
            Asked.due("shorter packet", 7, guard.run());
        }
    }

    private static int swapped(long number) {
        return Integer.reverseBytes((int) number);
    }

    /** How much of the packet is KNOWN on each side, by the longest LOAD that passes there. */
    private static void lengths() {
        // On the next side and on the other one: what low + so many bytes can be read; -1 nothing new.
        int[][] due = {{67, -1, 1}, {68, -1, 0}, {69, 0, -1}, {70, 1, -1}};
        int[][] dueTurned = {{67, 0, -1}, {68, 1, -1}, {69, -1, 1}, {70, -1, 0}};
        for (int low : new int[] {-3, 0, 1, 5, 4096}) {
            for (int[] d : due) {
                length(d[0], 7, 2, low, known(low, d[1]), known(low, d[2]));
            }
            for (int[] d : dueTurned) {
                length(d[0], 2, 7, low, known(low, d[1]), known(low, d[2]));
            }
        }
        // The least of a RANGE counts, and what was more stays.
        new Asked.Row().range(6, 3, 8).copy(7, 1).add(1, 7, 6, 0, 0).move(0, 0).add(69, 7, 2, 1, 0)
            .add(96, 0, 1, 2, 0).exit().runs("RANGE: low", 0);
        new Asked.Row().range(6, 3, 8).copy(7, 1).add(1, 7, 6, 0, 0).move(0, 0).add(69, 7, 2, 1, 0)
            .add(96, 0, 1, 3, 0).exit().fails("RANGE: low", 4, 23);
        new Asked.Row().copy(7, 1).add(17, 7, 0, 0, 9).move(0, 0).add(69, 7, 2, 4, 0)
            .add(17, 7, 0, 0, -5).add(69, 7, 2, 2, 0).add(96, 0, 1, 8, 0).exit().exit().runs("what was more stays", 0);
    }

    private static int known(int low, int more) {
        return more < 0 ? 0 : Math.max(0, low + more);
    }

    private static void length(int sort, int dst, int src, int low, int next, int jump) {
        String what = "length by " + sort + " of " + dst + " " + src + " at " + low;
        for (int more = 0; more <= 1; more++) {
            Asked.Row onNext = new Asked.Row().copy(7, 1).add(17, 7, 0, 0, low).move(0, 0).add(sort, dst, src, 1, 0)
                .add(96, 3, 1, next - 1 + more, 0).exit();
            Asked.Row onJump = new Asked.Row().copy(7, 1).add(17, 7, 0, 0, low).move(0, 0).add(sort, dst, src, 1, 0)
                .exit().add(96, 3, 1, jump - 1 + more, 0).exit();
            if (more == 1 || next == 0) {
                onNext.fails(what + ", next side", 4, 4);
            } else {
                onNext.passes(what + ", next side");
            }
            if (more == 1 || jump == 0) {
                onJump.fails(what + ", other side", 4, 5);
            } else {
                onJump.passes(what + ", other side");
            }
        }
    }

    private static Asked.Row look() {
        return new Asked.Row().map(1, 8, 2).add(104, 10, 0, -1, 1).copy(9, 10).add(17, 9, 0, 0, -1)
            .copy(2, 9).add(114, 1, 0, 0, 0).call(1);
    }

    private static void maybes() {
        look().add(96, 0, 0, 0, 0).exit().fails("not yet", 3, 6);
        look().add(81, 0, 0, 1, 0).add(99, 0, 0, 0, 0).exit().runs("= 0, next side", 0);
        look().add(81, 0, 0, 1, 0).exit().exit().fails("= 0, next side is a pointer", 3, 7);
        look().add(82, 0, 0, 1, 0).exit().add(99, 0, 0, 0, 0).exit().runs("<> 0, other side", 0);
        look().add(82, 0, 0, 1, 0).exit().exit().fails("<> 0, other side is a pointer", 3, 8);
        FilterGuard zero = look().add(82, 0, 0, 1, 0).exit().move(0, 5).exit().runs("0 is a NUMBER", 0);
        Asked.due("the NUMBER 0", 1, zero.known(7, 0, 2));
        Asked.due("the NUMBER 0: low", 0, zero.known(7, 0, 0));
        Asked.due("the NUMBER 0: high", 0, zero.known(7, 0, 1));
        Asked.due("no NUMBER on the other side", 0, zero.known(8, 0, 2));
        look().copy(6, 0).add(103, 10, 0, -16, 0).add(82, 6, 0, 2, 0).move(0, 0).exit()
            .add(99, 7, 10, -16, 0).add(99, 8, 7, 0, 0).add(99, 0, 0, 0, 0).exit().runs("all with its tag", 0);
        FilterGuard held = look().add(103, 10, 0, -16, 0).add(81, 0, 0, 2, 0).move(0, 0).exit()
            .add(99, 7, 10, -16, 0).copy(0, 7).exit().runs("a HELD one is the NUMBER 0", 0);
        Asked.due("a HELD one: a NUMBER", 1, held.known(11, 7, 2));
        look().copy(6, 0).copy(2, 9).add(114, 1, 0, 0, 0).call(1).add(81, 0, 0, 1, 0).add(99, 0, 6, 0, 0).exit()
            .fails("one of another LOOK isn't", 3, 11);
        look().copy(6, 0).copy(2, 9).add(114, 1, 0, 0, 0).call(1).add(81, 0, 0, 3, 0).add(81, 6, 0, 2, 0)
            .add(99, 0, 6, 0, 0).exit().move(0, 4).exit().runs("both are looked at", 4);
        // The same LOOK gone twice has two tags.
        new Asked.Row().map(1, 8, 2).add(104, 10, 0, -1, 1).move(8, 0)
            .copy(7, 10).copy(2, 10).add(17, 2, 0, 0, -1).add(114, 1, 0, 0, 0).call(1)
            .add(82, 8, 0, 3, 0).copy(6, 0).move(8, 1).add(64, 0, 0, -9, 0)
            .add(81, 0, 0, 2, 0).add(99, 0, 6, 0, 0).exit().move(0, 0).exit().fails("each LOOK has its tag", 3, 12);
    }
}

/** Promises 1 to 3, 5 to 8, 10 to 14: what the calls answer and refuse, apart from what CHECKING finds. */
public final class FaceTest {
    private static Asked.Row lone() {
        return new Asked.Row().move(0, 7).exit();
    }

    public static void main(String[] args) {
        newObject();
        maps();
        instructions();
        checks();
        clearing();
        feeding();
        ending();
        seeds();
        letters();
        places();
        logs();
        knowns();
        counts();
        Asked.end();
    }

    private static void newObject() {
        FilterGuard guard = new FilterGuard();
        int[] due = {0, 0, 0, 0, 0, 0, -1, 0, 0, 0, -1};
        for (int what = 0; what < due.length; what++) {
            Asked.due("new: count " + what, due[what], guard.count(what));
        }
        Asked.due("new: count -1", -1, guard.count(-1));
        Asked.refused("new: check", () -> guard.check());
        Asked.refused("new: run", () -> guard.run());
        Asked.missing("new: letter", () -> guard.letter(0));
        Asked.missing("new: place", () -> guard.place(0, 0, -1));
        Asked.missing("new: log", () -> guard.log(0));
        Asked.missing("new: known", () -> guard.known(0, 0, 0));
        FilterGuard chance = new Asked.Row().call(5).exit().passes("seed at first");
        Asked.due("SEED is 0 at first", 1442695040888963407L >>> 32, chance.run());
    }

    private static void maps() {
        FilterGuard guard = new FilterGuard();
        int[][] bad = {{0, 1, 1}, {9, 1, 1}, {1, 0, 1}, {1, 65, 1}, {1, 1, 0}, {1, 1, 17}, {-1, 1, 1},
            {Integer.MIN_VALUE, 1, 1}, {1, Integer.MAX_VALUE, 1}};
        for (int[] b : bad) {
            Asked.bad("map " + b[0] + " " + b[1] + " " + b[2], () -> guard.map(b[0], b[1], b[2]));
        }
        Asked.due("bad maps aren't there", 0, guard.count(1));
        Asked.due("map 0", 0, guard.map(1, 1, 1));
        Asked.due("map 1", 1, guard.map(8, 64, 16));
        Asked.due("map 2", 2, guard.map(8, 1, 16));
        Asked.due("map 3", 3, guard.map(1, 64, 1));
        Asked.refused("a fifth map", () -> guard.map(1, 1, 1));
        Asked.bad("bad goes before refused", () -> guard.map(0, 1, 1));
        Asked.due("maps", 4, guard.count(1));

        FilterGuard passed = lone().passes("map behind a pass");
        Asked.refused("map behind a pass", () -> passed.map(1, 1, 1));
        Asked.bad("bad map behind a pass", () -> passed.map(1, 1, 17));
        Asked.due("no map came", 0, passed.count(1));
    }

    private static void instructions() {
        FilterGuard guard = new FilterGuard();
        for (int i = 0; i < 200; i++) {
            Asked.due("add " + i, i, guard.add(i == 199 ? 113 : 16, 0, -7, 1000, i));
        }
        Asked.refused("instruction 200", () -> guard.add(113, 0, 0, 0, 0));
        Asked.due("instructions", 200, guard.count(0));
        Asked.due("200 pass", 0, guard.check());
        Asked.due("200 run", 198, guard.run());
        Asked.due("200 done", 200, guard.count(8));
        FilterGuard odd = new FilterGuard();
        Asked.due("any numbers can be added", 0, odd.add(-1, 99, -99, Integer.MIN_VALUE, Integer.MAX_VALUE));
        Asked.due("and are told by check", 1, odd.check());
        FilterGuard passed = lone().passes("add behind a pass");
        Asked.refused("add behind a pass", () -> passed.add(113, 0, 0, 0, 0));
        Asked.due("nothing was added", 2, passed.count(0));
    }

    private static void checks() {
        FilterGuard guard = new Asked.Row().move(0, 7).fails("no exit", 7, 0);
        Asked.due("gone", 1, guard.count(7));
        Asked.refused("run of what failed", () -> guard.run());
        Asked.due("a failed one goes on", 1, guard.add(113, 0, 0, 0, 0));
        Asked.due("and passes", 0, guard.check());
        Asked.due("fault then", 0, guard.count(5));
        Asked.due("its instruction then", -1, guard.count(6));
        Asked.due("gone then", 2, guard.count(7));
        Asked.refused("check behind a pass", () -> guard.check());
        Asked.due("still passed", 1, guard.count(4));
        Asked.due("gone is as it was", 2, guard.count(7));
    }

    private static void clearing() {
        Asked.Row row = new Asked.Row().map(1, 1, 1)
            .add(104, 10, 0, -1, 65).copy(2, 10).add(17, 2, 0, 0, -1).copy(3, 2)
            .add(114, 1, 0, 0, 0).call(2).move(1, 5).call(4).call(5).exit();
        FilterGuard guard = row.given();
        guard.feed(1, 2, 3, 4, 5);
        guard.seed(99);
        Asked.due("clear: check", 0, guard.check());
        long first = guard.run();
        Asked.due("clear: place before", 1, guard.place(0, 0, -1));
        Asked.due("clear: log before", 1, guard.count(3));
        guard.clear();
        int[] due = {0, 0, 20, 0, 0, 0, -1, 0, 0, 0};
        for (int what = 0; what < due.length; what++) {
            Asked.due("clear: count " + what, due[what], guard.count(what));
        }
        Asked.missing("clear: log", () -> guard.log(0));
        Asked.missing("clear: known", () -> guard.known(0, 0, 3));
        Asked.missing("clear: place", () -> guard.place(0, 0, -1));
        Asked.refused("clear: run", () -> guard.run());
        Asked.due("clear: the packet stays", 4, guard.letter(15));
        guard.map(1, 1, 1);
        Asked.due("clear: a new map is empty", 0, guard.place(0, 0, -1));
        Asked.due("clear: its key is 0", 0, guard.place(0, 0, 0));
        Asked.due("clear: its value is 0", 0, guard.place(0, 0, 1));
        guard.add(112, 0, 0, 0, 5);
        guard.add(113, 0, 0, 0, 0);
        guard.check();
        long next = (99L * 6364136223846793005L + 1442695040888963407L);
        Asked.due("clear: seed before", next >>> 32, first);
        Asked.due("clear: the seed stays", (next * 6364136223846793005L + 1442695040888963407L) >>> 32, guard.run());
    }

    private static void feeding() {
        FilterGuard guard = new FilterGuard();
        Asked.due("feed", 20, guard.feed(0x01020304, -1, 0x80000000, 0x7F, 0xFF00));
        int[] bytes = {1, 2, 3, 4, 255, 255, 255, 255, 128, 0, 0, 0, 0, 0, 0, 127, 0, 0, 255, 0};
        for (int i = 0; i < 20; i++) {
            Asked.due("fed byte " + i, bytes[i], guard.letter(i));
        }
        for (int n = 2; n <= 20; n++) {
            Asked.due("feed " + n, 20 * n, guard.feed(n, n, n, n, n));
        }
        Asked.dueThrow("feed 420", IndexOutOfBoundsException.class, () -> guard.feed(1, 1, 1, 1, 1));
        Asked.due("length", 400, guard.count(2));
        Asked.due("last byte", 20, guard.letter(399));
        guard.end(1);
        Asked.dueThrow("feed 419", IndexOutOfBoundsException.class, () -> guard.feed(1, 1, 1, 1, 1));
        Asked.due("length is as it was", 399, guard.count(2));
        guard.end(19);
        Asked.due("feed to 400", 400, guard.feed(9, 9, 9, 9, 9));
    }

    private static void ending() {
        FilterGuard guard = new FilterGuard();
        Asked.due("end 0 of none", 0, guard.end(0));
        Asked.bad("end 1 of none", () -> guard.end(1));
        guard.feed(1, 2, 3, 4, 5);
        Asked.bad("end -1", () -> guard.end(-1));
        Asked.bad("end 21", () -> guard.end(21));
        Asked.bad("end least", () -> guard.end(Integer.MIN_VALUE));
        Asked.due("end 0", 20, guard.end(0));
        Asked.due("end 3", 17, guard.end(3));
        Asked.missing("what went is gone", () -> guard.letter(17));
        Asked.due("feed behind it", 37, guard.feed(0x0A0B0C0D, 0, 0, 0, 0));
        Asked.due("goes on there", 10, guard.letter(17));
        Asked.due("end all", 0, guard.end(37));
    }

    private static void seeds() {
        FilterGuard guard = new Asked.Row().call(5).exit().passes("seed");
        for (long seed : new long[] {1, -1, Asked.LEAST, Asked.GREATEST, 123456789012345L}) {
            guard.seed(seed);
            long once = seed * 6364136223846793005L + 1442695040888963407L;
            Asked.due("chance of " + seed, once >>> 32, guard.run());
            long twice = once * 6364136223846793005L + 1442695040888963407L;
            Asked.due("chance goes on from " + seed, twice >>> 32, guard.run());
        }
        Asked.due("seed: strays", 0, guard.count(9));
    }

    private static void letters() {
        FilterGuard guard = new FilterGuard();
        guard.feed(0, 0, 0, 0, 0xFE);
        Asked.due("letter 19", 254, guard.letter(19));
        Asked.missing("letter 20", () -> guard.letter(20));
        Asked.missing("letter -1", () -> guard.letter(-1));
        Asked.missing("letter greatest", () -> guard.letter(Integer.MAX_VALUE));
    }

    private static void places() {
        FilterGuard guard = new FilterGuard();
        guard.map(2, 3, 4);
        Asked.due("empty place", 0, guard.place(0, 3, -1));
        Asked.due("its last byte", 0, guard.place(0, 3, 4));
        Asked.missing("byte behind it", () -> guard.place(0, 3, 5));
        Asked.missing("byte -2", () -> guard.place(0, 3, -2));
        Asked.missing("place 4", () -> guard.place(0, 4, -1));
        Asked.missing("place -1", () -> guard.place(0, -1, -1));
        Asked.missing("map 1", () -> guard.place(1, 0, -1));
        Asked.missing("map -1", () -> guard.place(-1, 0, -1));
        Asked.missing("map 4", () -> guard.place(4, 0, -1));
    }

    private static void logs() {
        FilterGuard guard = new Asked.Row().move(6, 0)
            .copy(1, 6).call(4).add(17, 6, 0, 0, 1).add(83, 6, 0, -4, 102).exit().runs("log", 0);
        Asked.due("at most 100 numbers", 100, guard.count(3));
        Asked.due("log 0", 0, guard.log(0));
        Asked.due("log 99", 99, guard.log(99));
        Asked.missing("log 100", () -> guard.log(100));
        Asked.missing("log -1", () -> guard.log(-1));
        guard.run();
        Asked.due("empty before each run", 100, guard.count(3));
        FilterGuard few = new Asked.Row().move(1, -3).call(4).exit().runs("short log", 0);
        few.run();
        Asked.due("one number", 1, few.count(3));
        Asked.due("it", -3, few.log(0));
        Asked.missing("no other", () -> few.log(1));
    }

    private static void knowns() {
        FilterGuard guard = lone().given();
        Asked.missing("known before check", () -> guard.known(0, 0, 0));
        Asked.bad("bad goes before missing", () -> guard.known(0, 0, 4));
        Asked.bad("what -1", () -> guard.known(0, 0, -1));
        guard.check();
        Asked.due("low", 7, guard.known(1, 0, 0));
        Asked.due("high", 7, guard.known(1, 0, 1));
        Asked.due("a number", 1, guard.known(1, 0, 2));
        Asked.due("gone", 1, guard.known(1, 0, 3));
        for (int what = 0; what < 3; what++) {
            Asked.due("none, " + what, 0, guard.known(0, 0, what));
            Asked.due("pointer, " + what, 0, guard.known(0, 10, what));
        }
        Asked.due("r may be anything", 1, guard.known(1, -5, 3));
        Asked.due("r may be anything", 1, guard.known(1, Integer.MAX_VALUE, 3));
        Asked.missing("r 11", () -> guard.known(1, 11, 0));
        Asked.missing("r -1", () -> guard.known(1, -1, 2));
        Asked.missing("i 2", () -> guard.known(2, 0, 0));
        Asked.missing("i -1", () -> guard.known(-1, 0, 3));
        Asked.bad("what 4", () -> guard.known(-1, 11, 4));
        FilterGuard two = new Asked.Row().call(5).add(85, 0, 0, 1, 5).move(0, -2).copy(6, 0).exit().passes("two ways");
        Asked.due("two ways: low", -2, two.known(3, 0, 0));
        Asked.due("two ways: high", Asked.LOW_32, two.known(3, 0, 1));
        Asked.due("two ways: gone", 2, two.known(3, 0, 3));
        Asked.due("two ways: one gone", 1, two.known(2, 0, 3));
        FilterGuard skip = new Asked.Row().move(0, 1).add(64, 0, 0, 1, 0).move(0, 2).exit().passes("skipped");
        Asked.due("skipped: gone", 0, skip.known(2, 0, 3));
        Asked.due("skipped: a number", 0, skip.known(2, 0, 2));
        Asked.due("skipped: low", 0, skip.known(2, 0, 0));
    }

    private static void counts() {
        FilterGuard guard = new Asked.Row().map(1, 1, 1).map(1, 1, 1).move(0, 5).exit().passes("counts");
        guard.feed(0, 0, 0, 0, 0);
        guard.run();
        int[] due = {2, 2, 20, 0, 1, 0, -1, 2, 2, 0, -1, -1};
        for (int what = 0; what < due.length; what++) {
            Asked.due("count " + what, due[what], guard.count(what));
        }
        Asked.due("count least", -1, guard.count(Integer.MIN_VALUE));
    }
}

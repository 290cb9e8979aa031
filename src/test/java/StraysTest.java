import java.lang.reflect.Field;

/**
 * Promise 14, count(9): it must never be anything but 0, so that it's asked here of objects that
 * were tampered with; one that couldn't count would answer 0 for them too.
 */
public final class StraysTest {
    public static void main(String[] args) throws ReflectiveOperationException {
        Asked.says("reads and writes in runs outside of what's the PROGRAM's, and NUMBERS outside of what's FORETOLD, which must never be (9)");
        outside();
        inside();
        unforetold();
        forgotten();
        Asked.end();
    }

    private static Asked.Row row() {
        return new Asked.Row();
    }

    private static Object part(Object of, String name) throws ReflectiveOperationException {
        Field field = of.getClass().getDeclaredField(name);
        field.setAccessible(true);
        return field.get(of);
    }

    /** Lets a program run that didn't pass. */
    private static FilterGuard passedAllTheSame(Asked.Row row, int fault) throws ReflectiveOperationException {
        FilterGuard guard = row.given();
        Asked.due("check", fault, guard.check());
        Field passed = FilterGuard.class.getDeclaredField("passed");
        passed.setAccessible(true);
        passed.setBoolean(guard, true);
        return guard;
    }

    private static void counted(String what, Asked.Row row, int fault) throws ReflectiveOperationException {
        FilterGuard guard = passedAllTheSame(row, fault);
        Asked.due(what + ": before", 0, guard.count(9));
        guard.run();
        int once = guard.count(9);
        Asked.due(what + ": counted", 1, once > 0 ? 1 : 0);
        guard.run();
        Asked.due(what + ": and again", 2 * once, guard.count(9));
    }

    private static void outside() throws ReflectiveOperationException {
        counted("LOAD behind the PACKET", row().move(0, 0).add(96, 6, 1, 0, 0).exit(), 4);
        counted("LOAD before the PACKET", row().move(0, 0).add(96, 6, 1, -1, 0).exit(), 4);
        counted("STORE behind the PACKET", row().move(0, 0).add(104, 1, 0, 0, 0).exit(), 4);
        counted("LOAD behind the STACK", row().move(0, 0).add(99, 6, 10, -7, 0).exit(), 4);
        counted("LOAD before the STACK", row().move(0, 0).add(99, 6, 10, -65, 0).exit(), 4);
        counted("STORE behind the STACK", row().move(0, 0).add(107, 10, 0, -7, 0).exit(), 4);
        counted("STORE before the STACK", row().move(0, 0).add(107, 10, 0, -65, 0).exit(), 4);
        counted("LOAD at a NUMBER", row().move(0, 0).add(96, 6, 0, 0, 0).exit(), 3);
        counted("a key behind the STACK", row().map(1, 1, 1).copy(2, 10).add(114, 1, 0, 0, 0).call(3).exit(), 4);
        for (int off : new int[] {-1, 3}) {
            counted("LOAD beside a value of 3 bytes", row().map(1, 3, 1).add(104, 10, 0, -1, 1).add(106, 10, 0, -8, 0)
                .copy(2, 10).add(17, 2, 0, 0, -1).copy(3, 10).add(17, 3, 0, 0, -8).add(114, 1, 0, 0, 0).call(2)
                .copy(2, 10).add(17, 2, 0, 0, -1).add(114, 1, 0, 0, 0).call(1).add(82, 0, 0, 1, 0).exit()
                .copy(6, 0).move(0, 0).add(96, 7, 6, off, 0).exit(), 4);
        }
    }

    /** Steps that CHECKING refuses for what it can't know, though the run stays within its memory. */
    private static void inside() throws ReflectiveOperationException {
        FilterGuard guard = passedAllTheSame(row().copy(6, 10).add(96, 7, 1, 0, 0).add(104, 10, 0, -1, 5).exit(), 4);
        guard.feed(1, 2, 3, 4, 5);
        guard.run();
        Asked.due("a PACKET that has the byte", 0, guard.count(9) - unforetoldOf(guard));
    }

    private static int unforetoldOf(FilterGuard guard) throws ReflectiveOperationException {
        return (int) part(part(guard, "runner"), "unforetold");
    }

    private static void unforetold() throws ReflectiveOperationException {
        for (String end : new String[] {"low", "high"}) {
            FilterGuard guard = row().move(0, 5).move(6, 5).exit().runs("as it is", 5);
            long[] ends = (long[]) part(part(guard, "foretold"), end);
            // Register 0 at instruction 2, the EXIT.
            ends[2 * 11] += end.equals("low") ? 1 : -1;
            guard.run();
            Asked.due("outside of " + end, 1, guard.count(9));
            ends[2 * 11] += end.equals("low") ? -1 : 1;
            guard.run();
            Asked.due("once, not twice", 1, guard.count(9));
        }
    }

    private static void forgotten() throws ReflectiveOperationException {
        FilterGuard guard = passedAllTheSame(row().move(0, 0).add(96, 6, 1, 0, 0).exit(), 4);
        guard.run();
        guard.clear();
        Asked.due("behind clear", 0, guard.count(9));
    }
}

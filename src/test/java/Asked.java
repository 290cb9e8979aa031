import java.util.ArrayList;
import java.util.List;

/** What the tests share: rows of instructions, a check of answers, and the end with its exit code. */
final class Asked {
    static final long LEAST = Long.MIN_VALUE;
    static final long GREATEST = Long.MAX_VALUE;
    static final long LOW_32 = 0xFFFFFFFFL;

    private static int asked = 0;
    private static int wrong = 0;

    private Asked() {
    }

    /** A call of the face. */
    interface Call {
        long answer();
    }

    static void due(String what, long want, long got) {
        asked++;
        if (want != got) {
            wrong++;
            System.out.println(what + " answered " + got + ", due is " + want);
        }
    }

    static void dueThrow(String what, Class<? extends RuntimeException> want, Call call) {
        asked++;
        try {
            long got = call.answer();
            wrong++;
            System.out.println(what + " answered " + got + ", due is " + want.getSimpleName());
        } catch (RuntimeException e) {
            if (e.getClass() != want) {
                wrong++;
                System.out.println(what + " threw " + e + ", due is " + want.getSimpleName());
            }
        }
    }

    static void refused(String what, Call call) {
        dueThrow(what, IllegalStateException.class, call);
    }

    static void bad(String what, Call call) {
        dueThrow(what, IllegalArgumentException.class, call);
    }

    static void missing(String what, Call call) {
        dueThrow(what, java.util.NoSuchElementException.class, call);
    }

    static void end() {
        System.out.println(asked + " answers, " + wrong + " of them wrong");
        if (wrong != 0 || asked == 0) {
            System.exit(1);
        }
    }

    /** A row of instructions that is written step by step. */
    static final class Row {
        final List<int[]> steps = new ArrayList<>();
        final List<int[]> maps = new ArrayList<>();

        Row map(int key, int value, int places) {
            maps.add(new int[] {key, value, places});
            return this;
        }

        Row add(int sort, int dst, int src, int off, int imm) {
            steps.add(new int[] {sort, dst, src, off, imm});
            return this;
        }

        int size() {
            return steps.size();
        }

        /** dst is imm. */
        Row move(int dst, int imm) {
            return add(16, dst, 0, 0, imm);
        }

        /** dst is src. */
        Row copy(int dst, int src) {
            return add(0, dst, src, 0, 0);
        }

        Row exit() {
            return add(113, 0, 0, 0, 0);
        }

        Row call(int number) {
            return add(112, 0, 0, 0, number);
        }

        /** dst is any long, as a CONST. */
        Row constant(int dst, long value) {
            move(dst, (int) (value >> 32));
            add(25, dst, 0, 0, 32);
            move(0, (int) value);
            add(57, 0, 0, 0, 0);
            return add(7, dst, 0, 0, 0);
        }

        /** dst is a NUMBER of ALL: eight bytes of DATA. Takes the stack's lowest eight bytes, and register 0. */
        Row all(int dst) {
            add(106, 10, 0, -64, 0);
            add(106, 10, 0, -60, 0);
            return add(99, dst, 10, -64, 0);
        }

        /** dst is a NUMBER of low .. high: ways on which it isn't exit. Takes registers 0 and 9. */
        Row range(int dst, long low, long high) {
            if (low == high) {
                return constant(dst, low);
            }
            all(dst);
            constant(9, low);
            add(74, dst, 9, 2, 0).move(0, 0).exit();
            constant(9, high);
            return add(72, dst, 9, 2, 0).move(0, 0).exit();
        }

        FilterGuard given() {
            FilterGuard guard = new FilterGuard();
            giveTo(guard);
            return guard;
        }

        void giveTo(FilterGuard guard) {
            for (int[] m : maps) {
                guard.map(m[0], m[1], m[2]);
            }
            for (int[] s : steps) {
                guard.add(s[0], s[1], s[2], s[3], s[4]);
            }
        }

        /** Given and checked, which must end in this fault at this instruction. */
        FilterGuard fails(String what, int fault, int at) {
            FilterGuard guard = given();
            due(what + ": check", fault, guard.check());
            due(what + ": passed", 0, guard.count(4));
            due(what + ": fault", fault, guard.count(5));
            due(what + ": fault's instruction", at, guard.count(6));
            return guard;
        }

        /** Given and checked, which must pass. */
        FilterGuard passes(String what) {
            FilterGuard guard = given();
            due(what + ": check", 0, guard.check());
            due(what + ": passed", 1, guard.count(4));
            due(what + ": fault", 0, guard.count(5));
            due(what + ": fault's instruction", guard.count(5) == 0 ? -1 : guard.count(6), guard.count(6));
            return guard;
        }

        /** Passes, and a run of it has this outcome, with nothing outside of what's its own or foretold. */
        FilterGuard runs(String what, long outcome) {
            FilterGuard guard = passes(what);
            if (guard.count(4) == 1) {
                due(what + ": run", outcome, guard.run());
                due(what + ": strays", 0, guard.count(9));
            }
            return guard;
        }
    }
}

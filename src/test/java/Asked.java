import java.io.IOException;
import java.nio.file.Files;
import java.nio.file.Path;
import java.util.ArrayList;
import java.util.List;

/** What the tests share: rows of instructions, a check of answers, and the end with its exit code. */
final class Asked {
    static final long LEAST = Long.MIN_VALUE;
    static final long GREATEST = Long.MAX_VALUE;
    static final long LOW_32 = 0xFFFFFFFFL;

    private static int asked = 0;
    private static int wrong = 0;
    private static String document = null;
    private static String said = "";

    private Asked() {
    }

    /** A call of the face. */
    interface Call {
        long answer();
    }

    /** What follows is a test of this sentence, which must stand in the document. */
    static void says(String sentence) {
        said = "\"" + sentence + "\": ";
        if (document == null) {
            document = readDocument();
        }
        due("the document says so", 1, document.isEmpty() || document.contains(sentence) ? 1 : 0);
    }

    private static String readDocument() {
        try {
            return Files.readString(Path.of("../shared/DOC.md")).replaceAll("\\s+", " ");
        } catch (IOException e) {
            System.out.println("no document is here: sentences aren't looked up");
            return "";
        }
    }

    static void due(String what, long want, long got) {
        asked++;
        if (want != got) {
            tellWrong(what + " answered " + got + ", due is " + want);
        }
    }

    private static void tellWrong(String what) {
        wrong++;
        System.out.println(said + what);
    }

    static void dueThrow(String what, Class<? extends RuntimeException> want, Call call) {
        asked++;
        try {
            long got = call.answer();
            tellWrong(what + " answered " + got + ", due is " + want.getSimpleName());
        } catch (RuntimeException e) {
            if (e.getClass() != want) {
                tellWrong(what + " threw " + e + ", due is " + want.getSimpleName());
            }
        }
    }

    static void refused(String what, Call call) {
        dueThrow(what, IllegalStateException.class, call);
    }

    static void bad(String what, Call call) {
        dueThrow(what, IllegalArgumentException.class, call);
    }

    static void missing(String what, Call call) {
        dueThrow(what, java.util.NoSuchElementException.class, call);
    }

    /** The call throws just this, and no other call answers otherwise behind it. */
    static void changesNothing(String what, FilterGuard guard, Class<? extends RuntimeException> want, Call call) {
        String before = seen(guard);
        dueThrow(what, want, call);
        String after = seen(guard);
        if (!before.equals(after)) {
            tellWrong(what + " changed " + before + " to " + after);
        }
    }

    /** What the calls that change nothing answer, some 150 of them at most. */
    private static String seen(FilterGuard guard) {
        StringBuilder seen = new StringBuilder("counts");
        for (int what = 0; what <= 9; what++) {
            seen.append(' ').append(guard.count(what));
        }
        seen.append(", letters");
        int length = guard.count(2);
        for (int i = 0; i < length; i += length > 40 ? 37 : 3) {
            seen.append(' ').append(guard.letter(i));
        }
        seen.append(length > 0 ? " " + guard.letter(length - 1) : "").append(", places");
        for (int m = 0; m < guard.count(1); m++) {
            seen.append(' ').append(guard.place(m, 0, -1)).append(guard.place(m, 0, 0)).append(guard.place(m, 0, 1));
        }
        seen.append(", log");
        for (int i = 0; i < guard.count(3); i += 9) {
            seen.append(' ').append(guard.log(i));
        }
        seen.append(", known");
        for (int i = 0; guard.count(4) == 1 && i < Math.min(4, guard.count(0)); i++) {
            for (int what = 0; what <= 3; what++) {
                seen.append(' ').append(guard.known(i, 0, what)).append(' ').append(guard.known(i, 6, what));
            }
        }
        return seen.toString();
    }

    static void end() {
        System.out.println(asked + " answers, " + wrong + " of them wrong");
        if (wrong != 0 || asked == 0) {
            System.exit(1);
        }
    }

    /** A row of instructions that is written step by step. */
    static final class Row {
        final List<int[]> steps = new ArrayList<>();
        final List<int[]> maps = new ArrayList<>();

        Row map(int key, int value, int places) {
            maps.add(new int[] {key, value, places});
            return this;
        }

        Row add(int sort, int dst, int src, int off, int imm) {
            steps.add(new int[] {sort, dst, src, off, imm});
            return this;
        }

        int size() {
            return steps.size();
        }

        /** dst is imm. */
        Row move(int dst, int imm) {
            return add(16, dst, 0, 0, imm);
        }

        /** dst is src. */
        Row copy(int dst, int src) {
            return add(0, dst, src, 0, 0);
        }

        Row exit() {
            return add(113, 0, 0, 0, 0);
        }

        Row call(int number) {
            return add(112, 0, 0, 0, number);
        }

        /** dst is any long, as a CONST. */
        Row constant(int dst, long value) {
            move(dst, (int) (value >> 32));
            add(25, dst, 0, 0, 32);
            move(0, (int) value);
            add(57, 0, 0, 0, 0);
            return add(7, dst, 0, 0, 0);
        }

        /** dst is a NUMBER of ALL: eight bytes of DATA. Takes the stack's lowest eight bytes, and register 0. */
        Row all(int dst) {
            add(106, 10, 0, -64, 0);
            add(106, 10, 0, -60, 0);
            return add(99, dst, 10, -64, 0);
        }

        /** dst is a NUMBER of low .. high: ways on which it isn't exit. Takes registers 0 and 9. */
        Row range(int dst, long low, long high) {
            if (low == high) {
                return constant(dst, low);
            }
            all(dst);
            constant(9, low);
            add(74, dst, 9, 2, 0).move(0, 0).exit();
            constant(9, high);
            return add(72, dst, 9, 2, 0).move(0, 0).exit();
        }

        FilterGuard given() {
            FilterGuard guard = new FilterGuard();
            giveTo(guard);
            return guard;
        }

        void giveTo(FilterGuard guard) {
            for (int[] m : maps) {
                guard.map(m[0], m[1], m[2]);
            }
            for (int[] s : steps) {
                guard.add(s[0], s[1], s[2], s[3], s[4]);
            }
        }

        /** Given and checked, which must end in this fault at this instruction. */
        FilterGuard fails(String what, int fault, int at) {
            FilterGuard guard = given();
            due(what + ": check", fault, guard.check());
            due(what + ": passed", 0, guard.count(4));
            due(what + ": fault", fault, guard.count(5));
            due(what + ": fault's instruction", at, guard.count(6));
            return guard;
        }

        /** Given and checked, which must pass. */
        FilterGuard passes(String what) {
            FilterGuard guard = given();
            due(what + ": check", 0, guard.check());
            due(what + ": passed", 1, guard.count(4));
            due(what + ": fault", 0, guard.count(5));
            due(what + ": fault's instruction", guard.count(5) == 0 ? -1 : guard.count(6), guard.count(6));
            return guard;
        }

        /** Passes, and a run of it has this outcome, with nothing outside of what's its own or foretold. */
        FilterGuard runs(String what, long outcome) {
            FilterGuard guard = passes(what);
            if (guard.count(4) == 1) {
                due(what + ": run", outcome, guard.run());
                due(what + ": strays", 0, guard.count(9));
            }
            return guard;
        }
    }
}

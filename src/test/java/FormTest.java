/** Promise 4, FORM: which instructions are ones at all. */
public final class FormTest {
    public static void main(String[] args) {
        sorts();
        registers();
        jumps();
        named();
        order();
        Asked.end();
    }

    private static boolean isSort(int sort) {
        return sort >= 0 && sort <= 12 || sort >= 16 && sort <= 28 || sort >= 32 && sort <= 44
            || sort >= 48 && sort <= 60 || sort >= 64 && sort <= 75 || sort >= 81 && sort <= 91
            || sort >= 96 && sort <= 107 || sort >= 112 && sort <= 114;
    }

    private static boolean named10(int sort) {
        return sort >= 65 && sort <= 91 || sort >= 100 && sort <= 107;
    }

    private static boolean namesSource(int sort) {
        return sort <= 11 || sort >= 32 && sort <= 43 || sort >= 65 && sort <= 75 || sort >= 96 && sort <= 103;
    }

    /** FORM once more: of instruction i of a row with its maps. */
    static boolean inForm(Asked.Row row, int i) {
        int[] s = row.steps.get(i);
        long to = i + 1L + s[3];
        boolean jumps = s[0] >= 64 && s[0] <= 91;
        return isSort(s[0]) && s[1] >= 0 && (s[1] <= 9 || s[1] == 10 && named10(s[0]))
            && (!namesSource(s[0]) || s[2] >= 0 && s[2] <= 10)
            && (!jumps || to >= 0 && to < row.size())
            && (s[0] != 112 || s[4] >= 1 && s[4] <= 5)
            && (s[0] != 114 || s[4] >= 0 && s[4] < row.maps.size());
    }

    /** Whether check finds instruction 1, which stands between harmless ones, out of FORM. */
    private static void form(boolean right, int sort, int dst, int src, int off, int imm) {
        FilterGuard guard = new Asked.Row().map(1, 1, 1).move(0, 0).add(sort, dst, src, off, imm).exit().given();
        String what = "form of " + sort + " " + dst + " " + src + " " + off + " " + imm;
        int fault = guard.check();
        Asked.due(what, right ? 0 : 1, fault == 1 ? 1 : 0);
        if (!right) {
            Asked.due(what + ": where", 1, guard.count(6));
            Asked.due(what + ": nothing is gone", 0, guard.count(7));
        }
    }

    private static int rightImm(int sort) {
        return sort == 112 ? 5 : 0;
    }

    private static void sorts() {
        for (int sort = -40; sort < 200; sort++) {
            form(isSort(sort), sort, 0, 0, 0, rightImm(sort));
        }
        form(false, Integer.MAX_VALUE, 0, 0, 0, 0);
        form(false, Integer.MIN_VALUE, 0, 0, 0, 0);
    }

    private static void registers() {
        for (int sort = 0; sort < 115; sort++) {
            if (isSort(sort)) {
                int imm = rightImm(sort);
                form(true, sort, 9, 10, 0, imm);
                form(named10(sort), sort, 10, 0, 0, imm);
                form(false, sort, 11, 0, 0, imm);
                form(false, sort, -1, 0, 0, imm);
                form(!namesSource(sort), sort, 0, 11, 0, imm);
                form(!namesSource(sort), sort, 0, -1, 0, imm);
                form(!namesSource(sort), sort, 0, Integer.MIN_VALUE, 0, imm);
            }
        }
    }

    private static void jumps() {
        for (int sort = 64; sort <= 91; sort++) {
            if (isSort(sort)) {
                for (int off = -6; off <= 6; off++) {
                    form(off >= -2 && off <= 0, sort, 0, 0, off, 0);
                }
                form(false, sort, 0, 0, Integer.MAX_VALUE, 0);
                form(false, sort, 0, 0, Integer.MIN_VALUE, 0);
            }
        }
    }

    private static void named() {
        for (int imm = -3; imm < 10; imm++) {
            form(imm >= 1 && imm <= 5, 112, 0, 0, 0, imm);
            form(imm == 0, 114, 1, 0, 0, imm);
        }
        form(false, 114, 1, 0, 0, Integer.MIN_VALUE);
        form(true, 0, 0, 0, Integer.MAX_VALUE, Integer.MIN_VALUE);
        form(true, 16, 0, Integer.MAX_VALUE, Integer.MAX_VALUE, Integer.MIN_VALUE);
        form(true, 64, 0, -77, 0, 77);
        form(true, 81, 0, -77, 0, 77);
        form(true, 104, 10, -77, -1, 77);
        form(true, 112, 0, -77, 77, 5);
        form(true, 113, 0, -77, 77, 99);
        form(true, 114, 3, -77, 77, 0);
        FilterGuard none = new Asked.Row().add(114, 1, 0, 0, 0).exit().given();
        Asked.due("no map to name", 1, none.check());
        none.map(1, 1, 1);
        Asked.due("there it is", 2, none.check());
        FilterGuard last = new Asked.Row().add(64, 0, 0, 0, 0).fails("jump behind the last", 1, 0);
        last.add(16, 0, 0, 0, 3);
        last.add(113, 0, 0, 0, 0);
        Asked.due("it leads somewhere now", 0, last.check());
    }

    private static void order() {
        new Asked.Row().copy(0, 7).add(13, 0, 0, 0, 0).add(200, 0, 0, 0, 0).exit()
            .fails("FORM goes before WAYS, the first of it counts", 1, 1);
        new Asked.Row().move(0, 0).exit().add(13, 0, 0, 0, 0).fails("FORM of what's never gone", 1, 2);
    }
}

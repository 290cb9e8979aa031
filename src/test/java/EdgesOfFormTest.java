/** FORM, sentence by sentence: the last that is in, the first that is out. */
public final class EdgesOfFormTest {
    public static void main(String[] args) {
        order();
        beforeWays();
        sorts();
        destinations();
        sources();
        stackRegister();
        jumpsOfGo();
        jumpsOfConditions();
        mapNames();
        callNumbers();
        whatIsNotNamed();
        mended();
        Asked.end();
    }

    private static Asked.Row row() {
        return new Asked.Row();
    }

    /** Instruction 1 of three: whether it is in FORM. Whatever other FAULT it has is left open. */
    private static void form(boolean right, int sort, int dst, int src, int off, int imm) {
        String what = sort + " " + dst + " " + src + " " + off + " " + imm;
        FilterGuard guard = row().map(1, 1, 1).move(0, 0).add(sort, dst, src, off, imm).exit().given();
        int fault = guard.check();
        Asked.due(what + " is out of FORM", right ? 0 : 1, fault == 1 ? 1 : 0);
        if (!right) {
            Asked.due(what + ": number", 1, guard.count(5));
            Asked.due(what + ": its instruction", 1, guard.count(6));
            Asked.due(what + ": nothing is gone", 0, guard.count(7));
            Asked.due(what + ": it didn't pass", 0, guard.count(4));
        }
    }

    private static void order() {
        Asked.says("(1) FORM, in order of INSTRUCTIONS");
        row().move(0, 0).add(13, 0, 0, 0, 0).add(14, 0, 0, 0, 0).exit().fails("the first of two", 1, 1);
        row().move(0, 0).add(16, 11, 0, 0, 0).add(14, 0, 0, 0, 0).exit().fails("a register before a SORT", 1, 1);
        row().add(64, 0, 0, 5, 0).add(14, 0, 0, 0, 0).exit().fails("a jump before a SORT", 1, 0);
        row().move(0, 0).exit().add(-1, 0, 0, 0, 0).fails("behind the EXIT", 1, 2);
        FilterGuard last = new FilterGuard();
        for (int i = 0; i < 199; i++) {
            last.add(113, 0, 0, 0, 0);
        }
        last.add(113, 11, 0, 0, 0);
        Asked.due("the last of 200", 1, last.check());
        Asked.due("its number", 199, last.count(6));
    }

    private static void beforeWays() {
        Asked.says("(1) FORM, in order of INSTRUCTIONS");
        row().copy(0, 7).add(13, 0, 0, 0, 0).exit().fails("before FAULT 2 of an earlier one", 1, 1);
        row().add(64, 0, 0, -1, 0).add(13, 0, 0, 0, 0).fails("before FAULT 8", 1, 1);
    }

    private static void sorts() {
        Asked.says("SORT is one of the above");
        int[][] spans = {{0, 12}, {16, 28}, {32, 44}, {48, 60}, {64, 75}, {81, 91}, {96, 107}, {112, 114}};
        int behind = -1;
        for (int[] span : spans) {
            for (int sort = behind; sort < span[0]; sort++) {
                form(false, sort, 0, 0, 0, 1);
            }
            for (int sort = span[0]; sort <= span[1]; sort++) {
                form(true, sort, 0, 0, 0, sort == 114 ? 0 : 1);
            }
            behind = span[1] + 1;
        }
        for (int sort : new int[] {115, 116, 128, 256, 1000, -128, Integer.MAX_VALUE, Integer.MIN_VALUE,
            Integer.MIN_VALUE + 16, -112}) {
            form(false, sort, 0, 0, 0, 1);
        }
    }

    private static void destinations() {
        Asked.says("dst, src: registers 0 .. 10");
        for (int sort : new int[] {0, 12, 16, 60, 64, 65, 75, 81, 91, 96, 99, 100, 103, 104, 107, 112, 113, 114}) {
            int imm = sort == 114 ? 0 : 1;
            form(true, sort, 0, 0, 0, imm);
            form(true, sort, 9, 0, 0, imm);
            form(false, sort, 11, 0, 0, imm);
            form(false, sort, -1, 0, 0, imm);
            form(false, sort, Integer.MAX_VALUE, 0, 0, imm);
            form(false, sort, Integer.MIN_VALUE, 0, 0, imm);
        }
    }

    private static void sources() {
        Asked.says("registers and what's named as said");
        for (int sort : new int[] {0, 1, 11, 32, 33, 43, 65, 66, 75, 96, 99, 100, 103}) {
            form(true, sort, 0, 0, 0, 0);
            form(true, sort, 0, 10, 0, 0);
            form(false, sort, 0, 11, 0, 0);
            form(false, sort, 0, -1, 0, 0);
            form(false, sort, 0, Integer.MAX_VALUE, 0, 0);
            form(false, sort, 0, Integer.MIN_VALUE, 0, 0);
        }
    }

    private static void stackRegister() {
        Asked.says("dst isn't 10 (but for 65 .. 91, 100 .. 107)");
        for (int sort : new int[] {0, 1, 12, 16, 28, 32, 44, 48, 60, 64, 96, 97, 98, 99, 112, 113, 114}) {
            form(false, sort, 10, 0, 0, sort == 114 ? 0 : 1);
        }
        for (int sort : new int[] {65, 66, 67, 71, 75, 81, 82, 90, 91, 100, 101, 102, 103, 104, 105, 106, 107}) {
            form(true, sort, 10, 0, 0, 1);
        }
    }

    private static void jumpsOfGo() {
        Asked.says("jumps lead to INSTRUCTIONS");
        form(true, 64, 0, 0, -2, 0);
        form(false, 64, 0, 0, -3, 0);
        form(true, 64, 0, 0, 0, 0);
        form(false, 64, 0, 0, 1, 0);
        form(false, 64, 0, 0, Integer.MAX_VALUE, 0);
        form(false, 64, 0, 0, Integer.MAX_VALUE - 1, 0);
        form(false, 64, 0, 0, Integer.MIN_VALUE, 0);
        row().add(64, 0, 0, 0, 0).fails("the only one, to behind itself", 1, 0);
        row().add(64, 0, 0, -1, 0).fails("the only one, to itself, is one", 8, 0);
        row().add(64, 0, 0, -2, 0).fails("the only one, to before itself", 1, 0);
    }

    private static void jumpsOfConditions() {
        Asked.says("jumps lead to INSTRUCTIONS");
        for (int sort = 65; sort <= 91; sort++) {
            if (sort <= 75 || sort >= 81) {
                form(true, sort, 0, 0, -2, 0);
                form(false, sort, 0, 0, -3, 0);
                form(true, sort, 0, 0, 0, 0);
                form(false, sort, 0, 0, 1, 0);
                form(false, sort, 0, 0, Integer.MAX_VALUE, 0);
                form(false, sort, 0, 0, Integer.MIN_VALUE, 0);
            }
        }
        row().move(0, 1).add(81, 0, 0, 1, 2).exit().fails("also one that can't be gone", 1, 1);
    }

    private static void mapNames() {
        Asked.says("(imm of 114: a MAP, of 112: 1 .. 5)");
        row().add(114, 1, 0, 0, 0).move(0, 0).exit().fails("no MAP at all", 1, 0);
        Asked.Row row = row();
        for (int maps = 1; maps <= 4; maps++) {
            row.map(1, 1, 1);
            for (int imm : new int[] {Integer.MIN_VALUE, -1, 0, maps - 1, maps, 4, 256, Integer.MAX_VALUE}) {
                Asked.Row named = row();
                named.maps.addAll(row.maps);
                named.add(114, 1, 0, 0, imm).move(0, 0).exit();
                if (imm >= 0 && imm < maps) {
                    named.passes(imm + " of " + maps);
                } else {
                    named.fails(imm + " of " + maps, 1, 0);
                }
            }
        }
    }

    private static void callNumbers() {
        Asked.says("(imm of 114: a MAP, of 112: 1 .. 5)");
        for (int imm : new int[] {Integer.MIN_VALUE, -1, 0, 6, 7, 257, Integer.MAX_VALUE}) {
            form(false, 112, 0, 0, 0, imm);
        }
        for (int imm = 1; imm <= 5; imm++) {
            form(true, 112, 0, 0, 0, imm);
        }
    }

    private static void whatIsNotNamed() {
        Asked.says("what isn't named (src, off, imm) may be anything.");
        for (int any : new int[] {Integer.MIN_VALUE, -1, 11, 400, Integer.MAX_VALUE}) {
            for (int operation = 0; operation <= 12; operation++) {
                row().move(0, 1).move(6, 1).add(operation, 6, 0, any, any).exit().passes(operation + ": off, imm");
                row().move(0, 1).move(6, 1).add(operation + 16, 6, any, any, 1).exit().passes(operation + 16 + ": src, off");
                row().move(0, 1).move(6, 1).add(operation + 48, 6, any, any, 1).exit().passes(operation + 48 + ": src, off");
            }
            row().move(0, 1).move(6, 1).add(12, 6, any, any, any).exit().passes("NEG: src, off, imm");
            row().move(0, 1).move(6, 1).add(44, 6, any, any, any).exit().passes("NEG, 32 more: src, off, imm");
            row().move(0, 1).add(64, 0, any, 0, any).exit().passes("GO: src, imm");
            for (int relation = 65; relation <= 75; relation++) {
                row().move(0, 1).add(relation, 0, 0, 0, any).exit().passes(relation + ": imm");
                row().move(0, 1).add(relation + 16, 0, any, 0, 1).exit().passes(relation + 16 + ": src");
            }
            for (int size = 0; size < 4; size++) {
                row().move(0, 1).add(107, 10, any, -8, 1).add(96 + size, 6, 10, -8, any).exit().passes("LOAD: imm");
                row().move(0, 1).add(100 + size, 10, 0, -8, any).exit().passes("STORE: imm");
                row().move(0, 1).add(104 + size, 10, any, -8, 1).exit().passes("STORE of imm: src");
            }
            row().add(112, 0, any, any, 5).exit().passes("CALL: src, off");
            row().move(0, 1).add(113, 0, any, any, any).passes("EXIT: src, off, imm");
            row().map(1, 1, 1).move(0, 1).add(114, 6, any, any, 0).exit().passes("114: src, off");
        }
    }

    private static void mended() {
        Asked.says("Answers 0 if it passed, else the FAULT's number (FORM: 1).");
        FilterGuard guard = row().move(0, 3).add(64, 0, 0, 0, 0).fails("it leads behind the last", 1, 1);
        guard.add(113, 0, 0, 0, 0);
        Asked.due("now it leads to one", 0, guard.check());
        FilterGuard named = row().move(0, 3).add(114, 6, 0, 0, 1).exit().fails("no MAP 1", 1, 1);
        named.map(1, 1, 1);
        Asked.due("still no MAP 1", 1, named.check());
        named.map(1, 1, 1);
        Asked.due("there it is", 0, named.check());
    }
}

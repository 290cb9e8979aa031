/** Promise 4, WAYS and FAULTS 2 to 8: where CHECKING stops, and which fault it tells. */
public final class FaultTest {
    private static Asked.Row row() {
        return new Asked.Row();
    }

    public static void main(String[] args) {
        unknownRegisters();
        pointers();
        pointerSums();
        pointerConditions();
        calls();
        runningOff();
        manySteps();
        manySides();
        ways();
        sidesForThemselves();
        nothingIsLeft();
        Asked.end();
    }

    private static void unknownRegisters() {
        for (int sort = 0; sort <= 60; sort++) {
            if ((sort & 15) <= 12) {
                boolean move = (sort & 15) == 0;
                row().move(6, 1).add(sort, 7, 6, 0, 1).fails("dst NONE in " + sort, move ? 7 : 2, 1);
                boolean source = (sort & 16) == 0 && (sort & 15) != 12;
                row().move(6, 1).add(sort, 6, 7, 0, 1).fails("src NONE in " + sort, source ? 2 : 7, 1);
            }
        }
        row().add(1, 1, 7, 0, 0).fails("NONE goes before a pointer", 2, 0);
        row().add(65, 10, 7, 0, 0).exit().fails("NONE in a condition", 2, 0);
        row().add(65, 7, 10, -1, 0).exit().fails("NONE as dst of a condition", 2, 0);
        row().add(81, 7, 0, -1, 0).exit().fails("NONE as dst of a condition with imm", 2, 0);
        row().add(96, 3, 7, 0, 0).fails("LOAD at NONE", 2, 0);
        row().add(100, 7, 10, 0, 0).fails("STORE at NONE", 2, 0);
        row().move(6, 0).add(100, 6, 7, 0, 0).fails("STORE of NONE, at a number", 2, 1);
        row().add(103, 10, 7, 100, 0).fails("STORE of NONE, outside", 2, 0);
        row().add(104, 7, 0, 0, 0).fails("STORE of imm at NONE", 2, 0);
        row().exit().fails("EXIT of NONE", 2, 0);
        for (int r = 1; r <= 5; r++) {
            row().move(r, 1).call(5).copy(6, r).fails("NONE behind a CALL: register " + r, 2, 2);
        }
        row().move(6, 4).call(5).copy(0, 6).exit().runs("6 stays", 4);
    }

    private static void pointers() {
        Asked.Row all = row().map(1, 8, 1).add(104, 10, 0, -1, 1).copy(6, 1).copy(7, 2).copy(8, 10)
            .copy(2, 10).add(17, 2, 0, 0, -1).add(114, 1, 0, 0, 0).copy(9, 1).call(1);
        int at = all.size();
        // Registers now: 0 a MAYBE, 6 PACKET, 7 END, 8 STACK, 9 a MAP.
        for (int pointer : new int[] {0, 6, 7, 8, 9}) {
            for (int sort = 0; sort <= 60; sort++) {
                int operation = sort & 15;
                if (operation > 12) {
                    continue;
                }
                boolean movable = pointer == 6 || pointer == 8;
                boolean sum = sort == 1 || sort == 17;
                boolean less = sort == 2 || sort == 18;
                Asked.Row asDst = row().map(1, 8, 1);
                asDst.steps.addAll(all.steps);
                asDst.move(5, 8).add(sort, pointer, 5, 0, 8);
                boolean right = operation == 0 || movable && (sum || less);
                asDst.fails("pointer " + pointer + " as dst of " + sort, right ? 7 : 3, at + 1);
                Asked.Row asSrc = row().map(1, 8, 1);
                asSrc.steps.addAll(all.steps);
                asSrc.move(5, 8).add(sort, 5, pointer, 0, 8);
                boolean unused = (sort & 16) != 0 || operation == 12;
                asSrc.fails("pointer " + pointer + " as src of " + sort,
                    unused || sort == 0 || movable && sort == 1 ? 7 : 3, at + 1);
            }
            Asked.Row out = row().map(1, 8, 1);
            out.steps.addAll(all.steps);
            out.copy(0, pointer).exit().fails("EXIT of pointer " + pointer, 3, at + 1);
            Asked.Row load = row().map(1, 8, 1);
            load.steps.addAll(all.steps);
            load.add(96, 3, pointer, 0, 0);
            load.fails("LOAD at pointer " + pointer, pointer == 6 || pointer == 8 ? 4 : 3, at);
            Asked.Row store = row().map(1, 8, 1);
            store.steps.addAll(all.steps);
            store.add(104, pointer, 0, 0, 0);
            store.fails("STORE at pointer " + pointer, pointer == 6 || pointer == 8 ? 4 : 3, at);
            Asked.Row hold = row().map(1, 8, 1);
            hold.steps.addAll(all.steps);
            hold.add(103, 10, pointer, -8, 0).add(99, 3, 10, -8, 0).add(103, 10, 3, -16, 0).move(0, 1).exit();
            hold.runs("the STACK HOLDS pointer " + pointer, 1);
        }
        row().move(6, 0).add(96, 3, 6, 0, 0).fails("LOAD at a NUMBER", 3, 1);
        row().move(6, 0).add(104, 6, 0, 0, 0).fails("STORE at a NUMBER", 3, 1);
        row().add(1, 1, 1, 0, 0).fails("pointer + pointer", 3, 0);
        row().add(2, 1, 1, 0, 0).fails("pointer - pointer", 3, 0);
        row().add(2, 2, 1, 0, 0).fails("END - PACKET", 3, 0);
    }

    private static void pointerSums() {
        int[][] sums = {{4096, 0, 7}, {4097, 0, 3}, {-4096, 0, 7}, {-4097, 0, 3}, {4096, 1, 3}, {4095, 1, 7},
            {Integer.MAX_VALUE, 0, 3}, {Integer.MIN_VALUE, 0, 3}};
        for (int pointer : new int[] {1, 10}) {
            for (int[] s : sums) {
                row().copy(6, pointer).add(17, 6, 0, 0, s[1]).add(17, 6, 0, 0, s[0])
                    .fails("pointer " + pointer + " + " + s[0] + " + " + s[1], s[2], 2);
                row().copy(6, pointer).add(18, 6, 0, 0, s[1]).add(18, 6, 0, 0, s[0])
                    .fails("pointer " + pointer + " - " + s[0] + " - " + s[1],
                        s[0] == Integer.MIN_VALUE ? 3 : s[2], 2);
                row().move(6, s[0]).add(1, 6, pointer, 0, 0)
                    .fails(s[0] + " + pointer " + pointer, Math.abs((long) s[0]) <= 4096 ? 7 : 3, 1);
            }
            row().constant(6, Asked.GREATEST).copy(7, pointer).add(1, 7, 6, 0, 0).fails("+ greatest", 3, 6);
            row().constant(6, Asked.LEAST).copy(7, pointer).add(2, 7, 6, 0, 0).fails("- least", 3, 6);
        }
        row().range(6, 0, 4096).copy(7, 1).add(1, 7, 6, 0, 0).move(0, 0).exit().runs("PACKET + RANGE", 0);
        row().range(6, 0, 4097).copy(7, 1).add(1, 7, 6, 0, 0).fails("PACKET + RANGE too far", 3, 20);
        row().range(6, 0, 4096).copy(7, 1).add(2, 7, 6, 0, 0).move(0, 0).exit().runs("PACKET - RANGE", 0);
        row().range(6, -1, 4097).copy(7, 1).add(2, 7, 6, 0, 0).fails("PACKET - RANGE too far", 3, 20);
        row().range(6, 0, 1).copy(7, 10).add(1, 7, 6, 0, 0).fails("STACK + RANGE", 3, 20);
        row().range(6, 0, 1).add(1, 6, 10, 0, 0).fails("RANGE + STACK", 3, 19);
        row().range(6, 0, 1).copy(7, 10).add(2, 7, 6, 0, 0).fails("STACK - RANGE", 3, 20);
        row().all(6).copy(7, 1).add(1, 7, 6, 0, 0).fails("PACKET + ALL", 3, 4);
    }

    private static void pointerConditions() {
        for (int sort = 65; sort <= 91; sort++) {
            if (sort > 75 && sort < 81) {
                continue;
            }
            boolean ofLength = sort >= 67 && sort <= 70;
            Asked.Row packetEnd = row().move(0, 0).add(sort, 1, 2, 0, 0).exit();
            Asked.Row endPacket = row().move(0, 0).add(sort, 2, 1, 0, 0).exit();
            if (ofLength) {
                packetEnd.runs("PACKET and END in " + sort, 0);
                endPacket.runs("END and PACKET in " + sort, 0);
            } else {
                packetEnd.fails("PACKET and END in " + sort, 3, 1);
                endPacket.fails("END and PACKET in " + sort, 3, 1);
            }
            row().move(0, 0).add(sort, 1, 1, 0, 0).exit().fails("PACKET and PACKET in " + sort, 3, 1);
            row().move(0, 0).add(sort, 2, 2, 0, 0).exit().fails("END and END in " + sort, 3, 1);
            row().move(0, 0).add(sort, 10, 0, 0, 0).exit().fails("STACK and a NUMBER in " + sort, 3, 1);
            if (sort <= 75) {
                row().move(0, 0).add(sort, 0, 10, 0, 0).exit().fails("a NUMBER and STACK in " + sort, 3, 1);
            }
            Asked.Row look = look().copy(6, 0).add(sort, 6, 6, 0, 0).move(0, 0).exit();
            if (sort == 81 || sort == 82) {
                look.runs("MAYBE and imm 0 in " + sort, 0);
            } else {
                look.fails("MAYBE in " + sort, 3, 6);
            }
            Asked.Row one = look().copy(6, 0).move(0, 0).add(sort, 6, 0, 0, 1).exit();
            one.fails("MAYBE and 1, or a register that is 0, in " + sort, 3, 7);
        }
    }

    private static Asked.Row look() {
        return row().map(1, 8, 1).add(104, 10, 0, -1, 1).copy(2, 10).add(17, 2, 0, 0, -1)
            .add(114, 1, 0, 0, 0).call(1);
    }

    private static void calls() {
        for (int number = 1; number <= 3; number++) {
            row().map(1, 8, 1).copy(6, 2).add(114, 1, 0, 0, 0).copy(2, 10).copy(3, 10)
                .call(number).fails("key outside in CALL " + number, 4, 4);
            row().map(1, 8, 1).copy(2, 10).add(17, 2, 0, 0, -1).copy(3, 10).move(1, 0)
                .call(number).fails("no MAP in CALL " + number, 6, 4);
            row().map(1, 8, 1).call(5).copy(2, 10).copy(3, 10).call(number).fails("NONE in CALL " + number, 2, 3);
            row().map(1, 8, 1).call(5).add(114, 1, 0, 0, 0).copy(3, 10)
                .call(number).fails("no key in CALL " + number, 2, 3);
            row().map(1, 8, 1).copy(2, 10).add(17, 2, 0, 0, -1).add(114, 1, 0, 0, 0)
                .copy(3, 10).add(17, 3, 0, 0, -8).call(number).fails("key NONE in CALL " + number, 5, 5);
            row().map(1, 8, 1).copy(3, 10).add(17, 3, 0, 0, -8).copy(2, 1).add(114, 1, 0, 0, 0)
                .call(number).fails("key in the PACKET in CALL " + number, number == 2 ? 5 : 6, 4);
        }
        row().map(1, 8, 1).add(104, 10, 0, -1, 1).copy(2, 10).add(17, 2, 0, 0, -1).add(114, 1, 0, 0, 0)
            .call(2).fails("no value", 2, 4);
        row().map(1, 8, 1).add(104, 10, 0, -1, 1).copy(2, 10).add(17, 2, 0, 0, -1).copy(3, 1).add(114, 1, 0, 0, 0)
            .call(2).fails("value in the PACKET", 6, 5);
        row().map(8, 8, 1).add(103, 10, 1, -8, 0).copy(2, 10).add(17, 2, 0, 0, -8).add(114, 1, 0, 0, 0)
            .call(1).fails("a pointer's bytes are no key", 5, 4);
        row().map(8, 8, 1).add(107, 10, 1, -8, 0).copy(2, 10).add(17, 2, 0, 0, -8).add(114, 1, 0, 0, 0)
            .call(3).exit().runs("a NUMBER's bytes are one", 1);
        row().call(5).call(4).fails("NOTE of NONE", 2, 1);
        row().copy(1, 10).call(4).fails("NOTE of a pointer", 6, 1);
        row().call(5).call(5).exit().passes("CHANCE uses no register");
        row().copy(1, 10).call(5).exit().passes("CHANCE uses no register");
    }

    private static void runningOff() {
        row().move(0, 0).fails("MOVE as the last", 7, 0);
        row().call(5).fails("CALL as the last", 7, 0);
        row().add(104, 10, 0, -1, 0).fails("STORE as the last", 7, 0);
        row().map(1, 1, 1).add(114, 0, 0, 0, 0).fails("MAP as the last", 7, 0);
        row().call(5).add(64, 0, 0, 1, 0).exit().add(81, 0, 0, -2, 5).fails("a condition as the last", 7, 3);
        row().move(0, 5).add(64, 0, 0, 1, 0).exit().add(81, 0, 0, -2, 5)
            .runs("a condition as the last, whose next side can't be", 5);
        row().move(0, 4).add(64, 0, 0, 1, 0).exit().add(81, 0, 0, -2, 5)
            .fails("a condition as the last, whose other side can't be", 7, 3);
        row().copy(0, 1).add(64, 0, 0, 1, 0).exit().add(17, 0, 0, 0, 4097).fails("the least number", 3, 3);
        row().call(5).copy(6, 0).add(85, 0, 0, 3, 9).move(0, 1).exit().move(0, 3).move(0, 2)
            .fails("the other side runs off", 7, 6);
    }

    private static void manySteps() {
        // 2 + 3332 * 3 = 9998, then 2 more up to the EXIT.
        Asked.Row most = row().move(0, 0).move(6, 0).add(17, 6, 0, 0, 1).move(7, 0).add(83, 6, 0, -3, 3332)
            .move(0, 1).exit();
        FilterGuard guard = most.runs("10000 instructions", 1);
        Asked.due("10000 gone", 10000, guard.count(7));
        Asked.due("10000 done", 10000, guard.count(8));
        FilterGuard over = row().move(0, 0).move(6, 0).add(17, 6, 0, 0, 1).move(7, 0).add(83, 6, 0, -3, 3332)
            .move(0, 1).move(0, 1).exit().fails("10001 instructions", 8, 7);
        Asked.due("10000 gone", 10000, over.count(7));
        row().move(0, 0).move(6, 0).add(17, 6, 0, 0, 1).move(7, 0).add(83, 6, 0, -3, 3332)
            .move(0, 1).move(0, 1).copy(0, 9).fails("before all else", 8, 7);
        row().add(64, 0, 0, -1, 0).fails("without end", 8, 0);
        row().move(0, 0).add(17, 0, 0, 0, 1).add(64, 0, 0, -2, 0).exit().fails("without end", 8, 2);
    }

    private static void manySides() {
        for (int sides : new int[] {99, 100, 101}) {
            Asked.Row row = row().call(5).copy(6, 0);
            for (int n = 0; n < sides; n++) {
                row.add(91, 6, 0, sides - 1 - n, 1);
            }
            row.exit();
            if (sides <= 100) {
                FilterGuard guard = row.passes(sides + " sides wait");
                Asked.due(sides + " sides: gone", 2 + sides + 1 + sides, guard.count(7));
                Asked.due(sides + " sides: ends", sides + 1, guard.known(2 + sides, 0, 3));
            } else {
                FilterGuard guard = row.fails(sides + " sides wait", 8, 102);
                Asked.due(sides + " sides: gone", 103, guard.count(7));
            }
        }
        Asked.Row last = row().call(5).copy(6, 0);
        for (int n = 0; n < 101; n++) {
            last.add(91, 6, 0, -1 - n, 1);
        }
        last.fails("running off goes before the 101st side", 7, 102);
        Asked.Row sure = row().call(5).copy(6, 0).move(7, 1);
        for (int n = 0; n < 100; n++) {
            sure.add(91, 6, 0, 101 - n, 1);
        }
        sure.add(81, 7, 0, 0, 1).move(7, 1).exit();
        sure.passes("a side that doesn't wait, with 100 that do");
    }

    private static void ways() {
        // The next side is gone first: it fails at 3, though the other one would fail at 5.
        row().call(5).copy(6, 0).add(85, 0, 0, 2, 9).copy(0, 9).exit().copy(0, 8).exit()
            .fails("the next side first", 2, 3);
        // Two sides wait: the latest is gone first.
        row().call(5).copy(6, 0).add(91, 6, 0, 2, 1).add(91, 6, 0, 3, 2).exit().copy(0, 9).exit().copy(0, 8).exit()
            .fails("the latest first", 2, 7);
        FilterGuard sure = row().move(6, 3).move(0, 0).add(85, 6, 0, 1, 9).exit().move(0, 1).exit().runs("sure", 0);
        Asked.due("a side that can't be isn't gone", 0, sure.known(4, 0, 3));
        Asked.due("so many are gone", 4, sure.count(7));
        FilterGuard both = row().move(0, 0).add(69, 1, 2, 0, 0).exit().runs("jump to the next", 0);
        Asked.due("both sides are gone", 2, both.known(2, 0, 3));
        // What waits keeps what was KNOWN then.
        FilterGuard kept = row().call(5).copy(6, 0).move(7, 1).add(85, 6, 0, 2, 9).move(7, 2).copy(0, 6).exit()
            .passes("what waits");
        Asked.due("what waits: least", 1, kept.known(6, 7, 0));
        Asked.due("what waits: greatest", 2, kept.known(6, 7, 1));
        Asked.due("what waits: only the next side is there", 0, kept.known(4, 6, 0));
        Asked.due("what waits: only the next side is there", 9, kept.known(4, 6, 1));
    }

    /** What one side does is not KNOWN on the other one; what was before is. */
    private static void sidesForThemselves() {
        row().call(5).copy(6, 0).add(85, 0, 0, 3, 9).add(104, 10, 0, -1, 4).move(0, 0).exit()
            .add(96, 0, 10, -1, 0).exit().fails("DATA of the next side", 5, 6);
        row().call(5).copy(6, 0).add(85, 0, 0, 3, 9).add(107, 10, 0, -8, 4).move(0, 0).exit()
            .add(99, 0, 10, -8, 0).exit().fails("HELD on the next side", 5, 6);
        row().call(5).copy(6, 0).add(85, 0, 0, 2, 9).move(7, 1).exit().copy(0, 7).exit()
            .fails("a register of the next side", 2, 5);
        row().call(5).copy(6, 0).add(104, 10, 0, -1, 4).add(107, 10, 0, -16, 5).add(85, 0, 0, 3, 9)
            .add(103, 10, 10, -8, 0).add(103, 10, 10, -16, 0).exit()
            .add(96, 0, 10, -1, 0).add(99, 7, 10, -16, 0).add(1, 0, 7, 0, 0).exit().runs("what was before", 9);
        // Two LOOKS, then a side that waits: there, too, each has its own tag and its own map.
        Asked.Row row = row().map(1, 1, 1).map(1, 8, 1).add(104, 10, 0, -1, 1).copy(9, 10).add(17, 9, 0, 0, -1)
            .copy(2, 9).add(114, 1, 0, 0, 0).call(1).copy(7, 0)
            .copy(2, 9).add(114, 1, 0, 0, 1).call(1).copy(8, 0).call(5).add(85, 0, 0, 2, 9).copy(7, 8).exit();
        int at = row.size();
        row.add(81, 8, 0, 1, 0).add(99, 0, 8, 0, 0).exit();
        row.passes("on the side that waited");
        row.steps.get(at + 1)[2] = 7;
        row.fails("on the side that waited, the other LOOK", 3, at + 1);
        row.steps.get(at)[1] = 7;
        row.fails("on the side that waited, the other map", 4, at + 1);
    }

    /** Nothing of one CHECKING is left in the next one of the same object. */
    private static void nothingIsLeft() {
        FilterGuard guard = row().call(5).copy(6, 0).add(104, 10, 0, -1, 4).add(107, 10, 0, -16, 5).move(7, 3)
            .add(91, 6, 0, 0, 1).add(91, 6, 0, 0, 2).copy(0, 9).exit().fails("first", 2, 7);
        guard.clear();
        row().move(0, 3).add(64, 0, 0, 0, 0).exit().giveTo(guard);
        Asked.due("no side waits still", 0, guard.check());
        Asked.due("three are gone", 3, guard.count(7));
        for (int i = 0; i < 3; i++) {
            Asked.due("gone once", 1, guard.known(i, 0, 3));
        }
        Asked.due("no NUMBER of before", 0, guard.known(0, 7, 2));
        Asked.due("no NUMBER of before", 0, guard.known(0, 6, 1));
        guard.clear();
        row().add(96, 0, 10, -1, 0).exit().giveTo(guard);
        Asked.due("no DATA of before", 5, guard.check());
        guard.clear();
        row().add(99, 0, 10, -16, 0).exit().giveTo(guard);
        Asked.due("nothing HELD of before", 5, guard.check());
        guard.clear();
        row().copy(7, 1).add(17, 7, 0, 0, 4).move(0, 0).add(69, 7, 2, 1, 0).copy(0, 9).exit().giveTo(guard);
        Asked.due("a length", 2, guard.check());
        guard.clear();
        row().add(96, 0, 1, 0, 0).exit().giveTo(guard);
        Asked.due("no length of before", 4, guard.check());
        guard.clear();
        row().move(0, 1).add(17, 0, 0, 0, 1).giveTo(guard);
        Asked.due("without an end", 7, guard.check());
        guard.add(113, 0, 0, 0, 0);
        Asked.due("with one", 0, guard.check());
        Asked.due("gone once, not twice", 1, guard.known(0, 0, 3));
        Asked.due("gone once, not twice", 1, guard.known(1, 0, 3));
    }
}

/** WAYS and FAULTS 2 to 8, sentence by sentence: which INSTRUCTION, and which number. */
public final class EdgesOfWaysTest {
    public static void main(String[] args) {
        knownAtFirst();
        lengthAtFirst();
        stackAtFirst();
        nextSideFirst();
        otherSideBehindTheExit();
        latestFirst();
        inWhatWasKnown();
        sidesThatCannotBe();
        firstMet();
        usedNone();
        unusedNone();
        usedByCalls();
        pointersElsewhere();
        memoryNotThere();
        unreadable();
        callFaults();
        noteOfNoNumber();
        unusedByCalls();
        behindTheLast();
        conditionsAtTheLast();
        tooManySteps();
        tooManyStepsOnManyWays();
        beforeAllElse();
        tooManySides();
        sidesThatNoLongerWait();
        behindAllElse();
        leastNumber();
        Asked.end();
    }

    private static Asked.Row row() {
        return new Asked.Row();
    }

    private static void knownAtFirst() {
        Asked.says("A WAY goes from 0, as said");
        for (int r = 0; r <= 10; r++) {
            FilterGuard guard = row().move(0, 0).exit().passes("at first");
            Asked.due("no NUMBER at first: register " + r, 0, guard.known(0, r, 2));
            Asked.due("low", 0, guard.known(0, r, 0));
            Asked.due("high", 0, guard.known(0, r, 1));
            Asked.due("0 is one then, no other", r == 0 ? 1 : 0, guard.known(1, r, 2));
        }
        row().add(69, 1, 2, 0, 0).move(0, 0).exit().passes("1 is PACKET, 2 is END");
        row().add(104, 10, 0, -64, 0).move(0, 0).exit().passes("10 is STACK + 0");
    }

    private static void lengthAtFirst() {
        Asked.says("LENGTH: as long as the PACKET is known to be, 0 at first.");
        FilterGuard guard = row().add(96, 0, 1, 0, 0).exit().given();
        guard.feed(1, 2, 3, 4, 5);
        Asked.due("whatever is in the PACKET", 4, guard.check());
        guard.clear();
        row().copy(7, 1).add(17, 7, 0, 0, 1).move(0, 0).add(69, 7, 2, 1, 0).add(96, 0, 1, 0, 0).exit().giveTo(guard);
        Asked.due("1 byte is known", 0, guard.check());
        guard.clear();
        row().copy(7, 1).add(17, 7, 0, 0, 4).move(0, 0).add(68, 7, 2, 1, 0).exit().copy(0, 9).exit().giveTo(guard);
        Asked.due("4 bytes are known at its FAULT", 2, guard.check());
        guard.clear();
        row().add(96, 0, 1, 0, 0).exit().giveTo(guard);
        Asked.due("but not in the next CHECKING", 4, guard.check());
    }

    private static void stackAtFirst() {
        Asked.says("STACK's bytes: NONE, DATA; or 8 bytes from c divided by 8 HOLD what's KNOWN of a register.");
        for (int c = -64; c < 0; c++) {
            row().add(96, 0, 10, c, 0).exit().fails("NONE at " + c, 5, 0);
            row().add(104, 10, 0, c, 3).add(96, 0, 10, c, 0).exit().runs("DATA at " + c, 3);
            if (c % 8 == 0) {
                row().add(107, 10, 0, c, 3).add(99, 0, 10, c, 0).exit().runs("HELD at " + c, 3);
            }
        }
    }

    private static void nextSideFirst() {
        Asked.says("at a condition it parts: on to the next one first");
        row().call(5).add(85, 0, 0, 2, 9).copy(0, 9).exit().copy(0, 8).exit().fails("the next one's FAULT", 2, 2);
        row().call(5).add(85, 0, 0, 1, 9).exit().copy(0, 8).exit().fails("the other one's behind it", 2, 3);
        FilterGuard guard = row().call(5).add(85, 0, 0, 2, 9).copy(6, 0).exit().copy(0, 8).exit().given();
        guard.check();
        Asked.due("both EXITS of the next one are gone before", 5, guard.count(7));
    }

    private static void otherSideBehindTheExit() {
        Asked.says("is gone when this one has come to its EXIT");
        FilterGuard guard = row().call(5).add(85, 0, 0, 3, 9).move(6, 1).move(6, 2).exit().copy(0, 8).exit()
            .fails("behind the EXIT", 2, 5);
        Asked.due("gone: 2, 3 of the next side, 1", 6, guard.count(7));
    }

    private static void latestFirst() {
        Asked.says("the latest one that waits first.");
        row().call(5).copy(6, 0).add(91, 6, 0, 2, 1).add(91, 6, 0, 3, 2).exit().copy(0, 9).exit().copy(0, 8).exit()
            .fails("of two", 2, 7);
        row().call(5).copy(6, 0).add(91, 6, 0, 4, 1).add(91, 6, 0, 5, 2).add(91, 6, 0, 0, 4).exit().exit()
            .copy(0, 9).exit().copy(0, 8).exit().fails("of three, the last of which passes", 2, 9);
        // A side that was taken up parts again: what waits from there is later than what waited before.
        row().call(5).copy(6, 0).add(91, 6, 0, 4, 1).add(91, 6, 0, 1, 2).exit()
            .add(91, 6, 0, 3, 4).exit().copy(0, 9).exit().copy(0, 8).exit().fails("of a side that parts again", 2, 9);
    }

    private static void inWhatWasKnown() {
        Asked.says("its other side waits (in what's KNOWN then)");
        FilterGuard guard = row().call(5).move(6, 1).add(85, 0, 0, 1, 9).move(6, 2).move(7, 3).exit().passes("registers");
        Asked.due("6 is as it was", 1, guard.known(4, 6, 0));
        Asked.due("6 is as it became", 2, guard.known(4, 6, 1));
        row().call(5).add(85, 0, 0, 2, 9).move(7, 3).exit().copy(0, 7).exit().fails("a register", 2, 4);
        row().call(5).add(85, 0, 0, 2, 9).add(107, 10, 0, -8, 3).exit().add(99, 0, 10, -8, 0).exit()
            .fails("what's HELD", 5, 4);
        row().call(5).add(85, 0, 0, 2, 9).add(104, 10, 0, -8, 3).exit().add(96, 0, 10, -8, 0).exit()
            .fails("DATA", 5, 4);
        row().call(5).add(107, 10, 0, -8, 3).add(85, 0, 0, 2, 9).add(103, 10, 10, -8, 0).exit().add(98, 0, 10, -8, 0)
            .exit().passes("what's overwritten on the next side");
        row().copy(7, 1).add(17, 7, 0, 0, 4).copy(8, 2).call(5).add(85, 0, 0, 3, 9).add(69, 7, 8, 0, 0).exit().exit()
            .add(98, 0, 1, 0, 0).exit().fails("LENGTH; and 1 is NONE behind a CALL", 2, 8);
        row().copy(6, 1).copy(7, 1).add(17, 7, 0, 0, 4).copy(8, 2).call(5).add(85, 0, 0, 2, 9).add(69, 7, 8, 0, 0).exit()
            .add(98, 0, 6, 0, 0).exit().fails("LENGTH", 4, 8);
    }

    private static void sidesThatCannotBe() {
        Asked.says("A side that can't be isn't gone.");
        FilterGuard jump = row().move(0, 4).add(81, 0, 0, 1, 4).copy(0, 9).exit().runs("the next one can't be", 4);
        Asked.due("never gone", 0, jump.known(2, 0, 3));
        Asked.due("gone in all", 3, jump.count(7));
        FilterGuard next = row().move(0, 4).add(81, 0, 0, 1, 5).exit().copy(0, 9).exit().runs("the other one can't be", 4);
        Asked.due("never gone", 0, next.known(3, 0, 3));
        Asked.due("gone in all", 3, next.count(7));
        FilterGuard range = row().call(5).add(83, 0, 0, 1, 0).exit().copy(0, 9).exit().passes("nothing is below 0");
        Asked.due("never gone", 0, range.known(3, 0, 3));
    }

    private static void firstMet() {
        Asked.says("FAULTS, at the first INSTRUCTION so met");
        row().add(64, 0, 0, 2, 0).copy(0, 9).exit().copy(0, 10).exit().fails("not the first by number", 3, 4);
        row().move(0, 0).add(64, 0, 0, 2, 0).copy(0, 9).exit().add(64, 0, 0, -3, 0).fails("led back", 2, 2);
        row().move(6, 0).copy(0, 10).add(17, 6, 0, 0, 1).add(82, 6, 0, 1, 3).exit().add(64, 0, 0, -4, 0)
            .fails("in the third turn", 3, 4);
    }

    private static void usedNone() {
        Asked.says("2 a register that's NONE is used");
        for (int operation = 1; operation <= 12; operation++) {
            for (int more = 0; more <= 48; more += 16) {
                row().move(6, 1).add(operation + more, 7, 6, 0, 1).exit().fails("dst of " + (operation + more), 2, 1);
            }
        }
        for (int operation = 0; operation <= 11; operation++) {
            row().move(6, 1).add(operation, 6, 7, 0, 1).exit().fails("src of " + operation, 2, 1);
            row().move(6, 1).add(operation + 32, 6, 7, 0, 1).exit().fails("src of " + (operation + 32), 2, 1);
        }
        for (int relation = 65; relation <= 75; relation++) {
            row().move(6, 1).add(relation, 7, 6, 0, 0).exit().fails("dst of " + relation, 2, 1);
            row().move(6, 1).add(relation, 6, 7, 0, 0).exit().fails("src of " + relation, 2, 1);
            row().move(6, 1).add(relation + 16, 7, 6, 0, 0).exit().fails("dst of " + (relation + 16), 2, 1);
        }
        for (int size = 0; size < 4; size++) {
            row().add(96 + size, 0, 7, 0, 0).exit().fails("src of LOAD", 2, 0);
            row().move(0, 0).add(100 + size, 7, 0, 0, 0).exit().fails("dst of STORE", 2, 1);
            row().add(100 + size, 10, 7, -8, 0).exit().fails("src of STORE", 2, 0);
            row().add(104 + size, 7, 0, 0, 0).exit().fails("dst of STORE of imm", 2, 0);
        }
        row().exit().fails("0 of EXIT", 2, 0);
    }

    private static void unusedNone() {
        Asked.says("(as dst in 0 and 114 it isn't)");
        row().move(6, 3).copy(0, 6).exit().runs("dst of MOVE", 3);
        row().move(0, 3).exit().runs("dst of MOVE with imm", 3);
        row().move(6, 3).add(32, 0, 6, 0, 0).exit().runs("dst of MOVE, 32 more", 3);
        row().add(48, 0, 0, 0, 3).exit().runs("dst of MOVE with imm, 32 more", 3);
        row().map(1, 1, 1).add(114, 6, 0, 0, 0).move(0, 3).exit().runs("dst of 114", 3);
        row().add(107, 10, 0, -8, 3).add(99, 0, 10, -8, 0).exit().runs("dst of LOAD", 3);
        row().add(64, 6, 7, 0, 0).move(0, 3).exit().runs("GO uses none", 3);
        row().add(107, 10, 7, -8, 3).move(0, 3).exit().runs("src of STORE of imm", 3);
    }

    private static Asked.Row key(int c) {
        return row().map(1, 8, 1).add(104, 10, 0, -1, 1).copy(2, 10).add(17, 2, 0, 0, c);
    }

    private static void usedByCalls() {
        Asked.says("(these registers are used, no others)");
        for (int call = 1; call <= 3; call++) {
            row().map(1, 8, 1).call(5).copy(2, 10).copy(3, 10).call(call).exit().fails("1 in " + call, 2, 3);
            row().map(1, 8, 1).call(5).add(114, 1, 0, 0, 0).copy(3, 10).call(call).exit().fails("2 in " + call, 2, 3);
        }
        key(-1).add(114, 1, 0, 0, 0).call(2).exit().fails("3 in PUT", 2, 4);
        key(-1).add(114, 1, 0, 0, 0).call(3).exit().runs("3 isn't used by TAKE", 1);
        key(-1).add(114, 1, 0, 0, 0).call(1).move(0, 4).exit().runs("3 isn't used by LOOK", 4);
        row().call(5).call(4).exit().fails("1 in NOTE", 2, 1);
    }

    private static void unusedByCalls() {
        Asked.says("(these registers are used, no others)");
        row().call(5).call(5).exit().passes("CHANCE with NONE in 1 .. 5");
        row().copy(1, 10).call(5).exit().passes("CHANCE with a pointer in 1");
        row().call(5).move(1, 7).call(4).exit().runs("NOTE with NONE in 2 .. 5", 0);
        key(-1).add(114, 1, 0, 0, 0).copy(3, 1).copy(4, 10).copy(5, 10).call(3).exit().runs("TAKE with pointers in 3 .. 5", 1);
    }

    private static void pointersElsewhere() {
        Asked.says("3 a pointer (all but NUMBERS) where it mustn't be.");
        row().copy(0, 1).exit().fails("EXIT of PACKET", 3, 1);
        row().copy(0, 2).exit().fails("EXIT of END", 3, 1);
        row().copy(0, 10).exit().fails("EXIT of STACK", 3, 1);
        row().map(1, 1, 1).add(114, 0, 0, 0, 0).exit().fails("EXIT of MAP", 3, 1);
        key(-1).add(114, 1, 0, 0, 0).call(1).exit().fails("EXIT of MAYBE", 3, 5);
        key(-1).add(114, 1, 0, 0, 0).call(1).add(82, 0, 0, 1, 0).exit().exit().fails("EXIT of VALUE", 3, 7);
        for (int operation = 3; operation <= 12; operation++) {
            row().copy(6, 10).add(operation + 16, 6, 0, 0, 1).exit().fails("dst of " + (operation + 16), 3, 1);
            row().copy(6, 10).add(operation + 48, 6, 0, 0, 1).exit().fails("dst of " + (operation + 48), 3, 1);
        }
        row().copy(6, 10).add(49, 6, 0, 0, 0).exit().fails("ADD, 32 more", 3, 1);
        row().copy(6, 10).add(50, 6, 0, 0, 0).exit().fails("SUB, 32 more", 3, 1);
        row().add(32, 6, 10, 0, 0).exit().fails("MOVE, 32 more", 3, 0);
        row().copy(6, 10).add(48, 6, 0, 0, 5).copy(0, 6).exit().runs("MOVE of imm over a pointer", 5);
    }

    private static void memoryNotThere() {
        Asked.says("4 memory not KNOWN to be there.");
        row().add(96, 0, 1, 0, 0).exit().fails("PACKET", 4, 0);
        row().add(104, 1, 0, 0, 0).exit().fails("PACKET, STORE", 4, 0);
        row().add(96, 0, 10, 0, 0).exit().fails("STACK", 4, 0);
        row().add(104, 10, 0, -65, 0).exit().fails("STACK, STORE", 4, 0);
        key(0).add(114, 1, 0, 0, 0).call(1).exit().fails("a key", 4, 4);
        key(-1).copy(3, 10).add(17, 3, 0, 0, -7).add(114, 1, 0, 0, 0).call(2).exit().fails("a value", 4, 6);
        key(-65).add(114, 1, 0, 0, 0).call(3).exit().fails("a key below", 4, 4);
    }

    private static void unreadable() {
        Asked.says("5 STACK's bytes that are NONE are read, or a pointer's HELD ones otherwise than said.");
        row().add(96, 0, 10, -1, 0).exit().fails("NONE", 5, 0);
        row().add(99, 0, 10, -8, 0).exit().fails("eight that are NONE", 5, 0);
        row().add(103, 10, 10, -8, 0).add(98, 0, 10, -8, 0).exit().fails("a part of a pointer", 5, 1);
        row().add(103, 10, 10, -8, 0).add(99, 0, 10, -8, 0).move(0, 1).exit().runs("the whole pointer", 1);
        key(-2).add(114, 1, 0, 0, 0).call(1).exit().fails("a key that is NONE", 5, 4);
        row().map(1, 8, 1).add(103, 10, 10, -8, 0).copy(2, 10).add(17, 2, 0, 0, -8).add(114, 1, 0, 0, 0).call(1).exit()
            .fails("a key in a pointer", 5, 4);
    }

    private static void callFaults() {
        Asked.says("6 CALL: register 1 no MAP (1, 2, 3), 2 (or, for 2, 3) no STACK + c");
        for (int call = 1; call <= 3; call++) {
            key(-1).copy(3, 10).add(17, 3, 0, 0, -8).move(1, 0).call(call).exit().fails("1 is a NUMBER in " + call, 6, 6);
            key(-1).copy(3, 10).add(17, 3, 0, 0, -8).call(call).exit().fails("1 is PACKET in " + call, 6, 5);
            key(-1).copy(3, 10).add(17, 3, 0, 0, -8).copy(1, 10).call(call).exit().fails("1 is STACK in " + call, 6, 6);
        }
        for (int call = 1; call <= 3; call++) {
            Asked.Row good = row().map(1, 8, 1).add(107, 10, 0, -8, 1).copy(3, 10).add(17, 3, 0, 0, -8).add(114, 1, 0, 0, 0);
            int at = good.size();
            good.call(call).exit().fails("2 is END in " + call, 6, at);
            good.steps.add(at, new int[] {16, 2, 0, 0, 0});
            good.fails("2 is a NUMBER in " + call, 6, at + 1);
            good.steps.set(at, new int[] {114, 2, 0, 0, 0});
            good.fails("2 is a MAP in " + call, 6, at + 1);
        }
        key(-1).copy(3, 1).add(114, 1, 0, 0, 0).call(2).exit().fails("3 is PACKET in PUT", 6, 5);
        key(-1).move(3, 0).add(114, 1, 0, 0, 0).call(2).exit().fails("3 is a NUMBER in PUT", 6, 5);
    }

    private static void noteOfNoNumber() {
        Asked.says("for 4, 1 no NUMBER");
        row().call(4).exit().fails("PACKET", 6, 0);
        row().copy(1, 2).call(4).exit().fails("END", 6, 1);
        row().copy(1, 10).call(4).exit().fails("STACK", 6, 1);
        row().map(1, 1, 1).add(114, 1, 0, 0, 0).call(4).exit().fails("MAP", 6, 1);
        key(-1).add(114, 1, 0, 0, 0).call(1).copy(1, 0).call(4).exit().fails("MAYBE", 6, 6);
        key(-1).add(114, 1, 0, 0, 0).call(1).copy(1, 0).add(82, 1, 0, 1, 0).exit().call(4).exit().fails("VALUE", 6, 8);
    }

    private static void behindTheLast() {
        Asked.says("7 it goes on behind the last INSTRUCTION");
        row().move(0, 0).fails("MOVE", 7, 0);
        row().move(0, 0).add(107, 10, 0, -8, 0).fails("STORE", 7, 1);
        row().add(107, 10, 0, -8, 0).add(99, 0, 10, -8, 0).fails("LOAD", 7, 1);
        row().call(5).fails("CALL", 7, 0);
        row().map(1, 1, 1).add(114, 0, 0, 0, 0).fails("114", 7, 0);
        row().move(0, 0).add(64, 0, 0, 1, 0).exit().add(64, 0, 0, -2, 0).runs("GO as the last doesn't", 0);
        row().move(0, 0).exit().move(0, 1).runs("what's never gone doesn't", 0);
        FilterGuard most = new FilterGuard();
        for (int i = 0; i < 200; i++) {
            most.add(16, 0, 0, 0, 0);
        }
        Asked.due("the last of 200", 7, most.check());
        Asked.due("its number", 199, most.count(6));
        Asked.due("it is gone", 200, most.count(7));
    }

    private static void conditionsAtTheLast() {
        Asked.says("(a condition: if its next one would; before its other side is looked at)");
        row().call(5).add(64, 0, 0, 1, 0).exit().add(81, 0, 0, -2, 5).fails("both sides can be", 7, 3);
        row().move(0, 4).add(64, 0, 0, 1, 0).exit().add(81, 0, 0, -2, 5).fails("its next one alone can be", 7, 3);
        row().move(0, 5).add(64, 0, 0, 1, 0).exit().add(81, 0, 0, -2, 5).runs("its other side alone can be", 5);
        row().move(0, 5).add(64, 0, 0, 1, 0).exit().add(66, 0, 0, -2, 0).fails("a register that isn't itself", 7, 3);
        row().copy(6, 1).move(0, 5).add(64, 0, 0, 1, 0).exit().add(69, 6, 2, -2, 0).fails("PACKET and END", 7, 4);
        row().call(5).add(64, 0, 0, 1, 0).copy(0, 9).add(81, 0, 0, -2, 5).fails("before the other side's FAULT", 7, 3);
    }

    /** A loop of three, gone so often, behind two that come first; then 0 is 1, and what follows. */
    private static Asked.Row loop(int turns) {
        return row().move(0, 0).move(6, 0).add(17, 6, 0, 0, 1).move(7, 0).add(83, 6, 0, -3, turns).move(0, 1);
    }

    private static void tooManySteps() {
        Asked.says("8 it would be INSTRUCTION 10001 gone in all (before all else)");
        FilterGuard most = loop(3332).exit().runs("10000", 1);
        Asked.due("gone", 10000, most.count(7));
        Asked.due("done", 10000, most.count(8));
        Asked.due("of one", 3332, most.known(3, 0, 3));
        FilterGuard over = loop(3332).move(0, 1).exit().fails("10001", 8, 7);
        Asked.due("gone", 10000, over.count(7));
        FilterGuard self = row().add(64, 0, 0, -1, 0).fails("without an end", 8, 0);
        Asked.due("gone", 10000, self.count(7));
        row().move(6, 0).add(17, 6, 0, 0, 1).add(64, 0, 0, -2, 0).fails("without an end", 8, 2);
    }

    private static void tooManyStepsOnManyWays() {
        Asked.says("8 it would be INSTRUCTION 10001 gone in all (before all else)");
        // 3 and 2 ways of 2 + 3 * turns + 2: 3 + 2 * (4 + 3 * 1665) = 10001.
        for (int turns = 1664; turns <= 1665; turns++) {
            Asked.Row row = row().call(5).copy(8, 0).add(91, 8, 0, 0, 1);
            row.steps.addAll(loop(turns).exit().steps);
            if (turns == 1664) {
                FilterGuard guard = row.runs("9995 on two WAYS", 1);
                Asked.due("gone", 9995, guard.count(7));
                Asked.due("done", 3 + 4996, guard.count(8));
            } else {
                FilterGuard guard = row.fails("10001 on two WAYS", 8, 9);
                Asked.due("gone", 10000, guard.count(7));
            }
        }
        // The first WAY goes 9997 + more, then the side that waited comes to the EXIT at once.
        for (int more = 2; more <= 3; more++) {
            Asked.Row row = row().call(5).add(91, 0, 0, 4 + more, 1).move(6, 0)
                .add(17, 6, 0, 0, 1).move(7, 0).add(83, 6, 0, -3, 3331);
            for (int n = 0; n < more; n++) {
                row.move(7, 0);
            }
            row.exit();
            FilterGuard guard = more == 2 ? row.passes("its EXIT is the 10000th")
                : row.fails("its EXIT would be the 10001st", 8, row.size() - 1);
            Asked.due("gone", 10000, guard.count(7));
        }
    }

    private static void beforeAllElse() {
        Asked.says("8 it would be INSTRUCTION 10001 gone in all (before all else)");
        loop(3332).move(0, 1).copy(0, 9).fails("before FAULT 2", 8, 7);
        loop(3332).move(0, 1).add(35, 0, 10, 0, 0).fails("before FAULT 3", 8, 7);
        loop(3332).move(0, 1).move(0, 1).fails("before FAULT 7", 8, 7);
        loop(3332).copy(0, 9).fails("the 10000th has its own FAULT", 2, 6);
        loop(3332).move(0, 1).fails("the 10000th has its own FAULT", 7, 6);
    }

    /** So many conditions, one behind the other, whose other sides all lead to what follows. */
    private static Asked.Row sides(int often) {
        Asked.Row row = row().call(5).copy(6, 0);
        for (int n = 0; n < often; n++) {
            row.add(91, 6, 0, often - 1 - n, 1);
        }
        return row;
    }

    private static void tooManySides() {
        Asked.says("or the 101st side would wait (behind all else).");
        FilterGuard most = sides(100).exit().passes("100 wait");
        Asked.due("gone", 203, most.count(7));
        Asked.due("EXIT", 101, most.known(102, 0, 3));
        FilterGuard over = sides(101).exit().fails("101 would wait", 8, 102);
        Asked.due("gone", 103, over.count(7));
        FilterGuard far = sides(150).exit().fails("the 101st of more", 8, 102);
        Asked.due("gone", 103, far.count(7));
    }

    private static void sidesThatNoLongerWait() {
        Asked.says("or the 101st side would wait (behind all else).");
        Asked.Row taken = sides(100);
        taken.add(91, 6, 0, 0, 1).exit();
        taken.fails("the 101st", 8, 102);
        // Each side is taken up before the next one waits: 150 in all, one at a time.
        Asked.Row one = row().call(5).copy(6, 0);
        for (int n = 0; n < 60; n++) {
            one.add(91, 6, 0, 1, 1).exit();
        }
        FilterGuard guard = one.exit().passes("one at a time");
        Asked.due("gone", 2 + 60 * 2 + 1, guard.count(7));
        Asked.Row sure = row().move(7, 1).call(5).copy(6, 0);
        for (int n = 0; n < 100; n++) {
            sure.add(91, 6, 0, 102 - n, 1);
        }
        sure.add(81, 7, 0, 0, 2).add(81, 7, 0, 0, 1).move(7, 1).exit();
        sure.passes("sides that can't be, and those beside them, don't wait");
    }

    private static void behindAllElse() {
        Asked.says("or the 101st side would wait (behind all else).");
        Asked.Row none = sides(100).add(65, 6, 9, 0, 0).exit();
        none.fails("behind FAULT 2", 2, 102);
        Asked.Row pointer = sides(100).add(65, 6, 10, 0, 0).exit();
        pointer.fails("behind FAULT 3", 3, 102);
        Asked.Row last = sides(100).add(91, 6, 0, -1, 1);
        last.fails("behind FAULT 7", 7, 102);
    }

    private static void leastNumber() {
        Asked.says("Of one INSTRUCTION the least number.");
        row().add(1, 1, 7, 0, 0).fails("2, 3, 7: ADD of PACKET and NONE", 2, 0);
        row().move(6, 0).add(103, 6, 7, 0, 0).fails("2, 3, 7: STORE of NONE at a NUMBER", 2, 1);
        row().add(103, 10, 7, 0, 0).fails("2, 4, 7: STORE of NONE outside", 2, 0);
        row().map(1, 8, 1).copy(2, 1).call(2).fails("2, 6: PUT without 3", 2, 1);
        row().map(1, 8, 1).add(114, 1, 0, 0, 0).copy(2, 10).call(2).fails("2, 4: PUT without 3, key outside", 2, 2);
        row().add(103, 1, 10, 0, 0).fails("3, 4: STORE of a pointer in the PACKET", 3, 0);
        row().add(103, 10, 10, -7, 0).fails("3, 4: STORE of a pointer outside, across", 3, 0);
        row().add(102, 10, 10, 0, 0).fails("3, 4: STORE of a pointer's 4 bytes outside", 3, 0);
        row().add(103, 10, 10, 0, 0).fails("4, 7: STORE of a pointer outside", 4, 0);
        row().add(49, 1, 0, 0, 1).fails("3, 7", 3, 0);
        row().add(99, 0, 10, -65, 0).fails("4, 5: LOAD outside, of NONE", 4, 0);
        row().add(99, 0, 10, -4, 0).fails("4, 5: LOAD outside, of NONE", 4, 0);
        row().map(1, 8, 1).add(114, 1, 0, 0, 0).copy(2, 10).copy(3, 10).add(17, 3, 0, 0, -8).call(2)
            .fails("4, 5: key outside, value NONE", 4, 4);
        row().map(1, 8, 1).add(114, 1, 0, 0, 0).copy(3, 10).copy(2, 10).add(17, 2, 0, 0, -1).call(2)
            .fails("4, 5: key NONE, value outside", 4, 4);
        row().map(1, 8, 1).add(114, 1, 0, 0, 0).copy(2, 10).move(3, 0).call(2).fails("4, 6: key outside, value no STACK", 4, 3);
        row().map(1, 8, 1).add(114, 1, 0, 0, 0).move(2, 0).copy(3, 10).call(2).fails("4, 6: key no STACK, value outside", 4, 3);
        row().map(1, 8, 1).add(114, 1, 0, 0, 0).copy(2, 10).add(17, 2, 0, 0, -1).move(3, 0).call(2)
            .fails("5, 6: key NONE, value no STACK", 5, 4);
        row().map(1, 8, 1).add(114, 1, 0, 0, 0).copy(3, 10).add(17, 3, 0, 0, -8).move(2, 0).call(2)
            .fails("5, 6: key no STACK, value NONE", 5, 4);
        row().add(96, 0, 10, -1, 0).fails("5, 7", 5, 0);
        row().call(4).fails("6, 7", 6, 0);
        row().add(96, 0, 1, 0, 0).fails("4, 7", 4, 0);
    }
}

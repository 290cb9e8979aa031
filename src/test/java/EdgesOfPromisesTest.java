/** Promises 1 to 14, sentence by sentence: what each call answers at its edges, what it refuses, and what is then as before. */
public final class EdgesOfPromisesTest {
    private static final Class<IllegalStateException> REFUSED = IllegalStateException.class;
    private static final Class<IllegalArgumentException> BAD = IllegalArgumentException.class;
    private static final Class<java.util.NoSuchElementException> MISSING = java.util.NoSuchElementException.class;
    private static final Class<IndexOutOfBoundsException> OUT = IndexOutOfBoundsException.class;

    public static void main(String[] args) {
        exceptions();
        firstInItsHeading();
        newObject();
        objectsForThemselves();
        maps();
        mapsBehindAPass();
        mapsBehindAFailure();
        adds();
        addsBehindAPass();
        checks();
        checksOfNothing();
        checksBehindAPass();
        checksAgain();
        checksForget();
        clears();
        clearsAnyState();
        clearedMaps();
        clearedLimits();
        feeds();
        feedsTooMuch();
        ends();
        endsTooMuch();
        seeds();
        runs();
        runsRefused();
        letters();
        lettersBehindStores();
        places();
        placesOfEachMap();
        logs();
        knowns();
        knownsRefused();
        counts();
        latestFault();
        latestCheckingAndRun();
        strays();
        Asked.end();
    }

    private static Asked.Row row() {
        return new Asked.Row();
    }

    /** An object with all that can be seen: a map with a key, a packet, a log, a passed program, a run. */
    private static FilterGuard full() {
        FilterGuard guard = row().map(1, 1, 2).map(2, 3, 4).add(104, 10, 0, -1, 7).copy(2, 10).add(17, 2, 0, 0, -1)
            .copy(3, 2).add(114, 1, 0, 0, 0).call(2).move(1, 33).call(4).move(6, 9).exit().given();
        guard.feed(1, 2, 3, 4, 5);
        guard.check();
        guard.run();
        return guard;
    }

    private static void exceptions() {
        Asked.says("\"Bad\" is IllegalArgumentException: a number out of range. REFUSED is IllegalStateException, \"missing\" java.util.NoSuchElementException. A refused call changes nothing.");
        FilterGuard guard = full();
        Asked.changesNothing("map", guard, REFUSED, () -> guard.map(1, 1, 1));
        Asked.changesNothing("add", guard, REFUSED, () -> guard.add(113, 0, 0, 0, 0));
        Asked.changesNothing("check", guard, REFUSED, () -> guard.check());
        FilterGuard more = full();
        Asked.changesNothing("bad map", more, BAD, () -> more.map(0, 1, 1));
        Asked.changesNothing("end", more, BAD, () -> more.end(21));
        Asked.changesNothing("end", more, BAD, () -> more.end(-1));
        FilterGuard third = full();
        Asked.changesNothing("known", third, BAD, () -> third.known(0, 0, 4));
        Asked.changesNothing("known", third, MISSING, () -> third.known(10, 0, 0));
        Asked.changesNothing("letter", third, MISSING, () -> third.letter(20));
        FilterGuard fourth = full();
        Asked.changesNothing("place", fourth, MISSING, () -> fourth.place(2, 0, 0));
        Asked.changesNothing("log", fourth, MISSING, () -> fourth.log(1));
        FilterGuard unchecked = row().move(0, 0).exit().given();
        Asked.changesNothing("run", unchecked, REFUSED, () -> unchecked.run());
        Asked.changesNothing("known", unchecked, MISSING, () -> unchecked.known(0, 0, 0));
        Asked.due("it passes still", 0, unchecked.check());
    }

    private static void firstInItsHeading() {
        Asked.says("Of several exceptions that fit it throws the one that stands first in its heading.");
        FilterGuard four = new FilterGuard();
        for (int m = 0; m < 4; m++) {
            four.map(1, 1, 1);
        }
        Asked.changesNothing("map: bad, and 4 are there", four, BAD, () -> four.map(9, 1, 1));
        Asked.changesNothing("map: bad, and 4 are there", four, BAD, () -> four.map(1, 65, 1));
        Asked.changesNothing("map: bad, and 4 are there", four, BAD, () -> four.map(1, 1, 0));
        Asked.changesNothing("map: 4 are there", four, REFUSED, () -> four.map(8, 64, 16));
        FilterGuard passed = row().move(0, 0).exit().passes("passed");
        Asked.changesNothing("map: bad, and a PROGRAM passed", passed, BAD, () -> passed.map(1, 1, 17));
        Asked.changesNothing("known: bad, and no such one", passed, BAD, () -> passed.known(-1, -1, -1));
        Asked.changesNothing("known: bad, and no such one", passed, BAD, () -> passed.known(2, 0, 4));
        FilterGuard none = new FilterGuard();
        Asked.changesNothing("known: bad, and none passed", none, BAD, () -> none.known(0, 0, 4));
        Asked.changesNothing("known: none passed", none, MISSING, () -> none.known(0, 0, 3));
    }

    private static void newObject() {
        Asked.says("No INSTRUCTIONS, MAPS, bytes; SEED 0.");
        FilterGuard guard = new FilterGuard();
        Asked.due("INSTRUCTIONS", 0, guard.count(0));
        Asked.due("MAPS", 0, guard.count(1));
        Asked.due("bytes", 0, guard.count(2));
        Asked.due("LOG", 0, guard.count(3));
        Asked.due("passed", 0, guard.count(4));
        Asked.due("FAULT", 0, guard.count(5));
        Asked.due("its INSTRUCTION", -1, guard.count(6));
        Asked.due("gone", 0, guard.count(7));
        Asked.due("done", 0, guard.count(8));
        Asked.due("strays", 0, guard.count(9));
        Asked.missing("no byte", () -> guard.letter(0));
        Asked.missing("no MAP", () -> guard.place(0, 0, -1));
        Asked.missing("no LOG", () -> guard.log(0));
        Asked.missing("nothing FORETOLD", () -> guard.known(0, 0, 3));
        Asked.refused("nothing to check", () -> guard.check());
        Asked.refused("nothing to run", () -> guard.run());
        Asked.bad("no byte to go", () -> guard.end(1));
        guard.add(112, 0, 0, 0, 5);
        guard.add(113, 0, 0, 0, 0);
        guard.check();
        Asked.due("SEED 0", 335903614L, guard.run());
    }

    private static void objectsForThemselves() {
        Asked.says("All memory is the class's own rows.");
        FilterGuard one = full();
        FilterGuard other = full();
        one.clear();
        one.end(20);
        one.seed(9);
        Asked.due("INSTRUCTIONS of another one", 10, other.count(0));
        Asked.due("its PLACES", 7, other.place(0, 0, 0));
        Asked.due("its PACKET", 5, other.letter(19));
        Asked.due("its LOG", 33, other.log(0));
        Asked.due("its runs", 0, other.run());
    }

    private static void maps() {
        Asked.says("A MAP more: the key's bytes, the value's, its PLACES. 4 are there, or a PROGRAM passed: REFUSED. Answers its number.");
        FilterGuard guard = new FilterGuard();
        Asked.due("number 0", 0, guard.map(1, 2, 3));
        Asked.due("number 1", 1, guard.map(4, 5, 6));
        Asked.due("last byte of 0", 0, guard.place(0, 2, 2));
        Asked.missing("byte behind it", () -> guard.place(0, 2, 3));
        Asked.missing("place behind it", () -> guard.place(0, 3, -1));
        Asked.due("last byte of 1", 0, guard.place(1, 5, 8));
        Asked.missing("byte behind it", () -> guard.place(1, 5, 9));
        Asked.missing("place behind it", () -> guard.place(1, 6, -1));
        Asked.changesNothing("bad", guard, BAD, () -> guard.map(0, 5, 6));
        Asked.due("number 2", 2, guard.map(8, 64, 16));
        Asked.due("number 3", 3, guard.map(8, 64, 16));
        Asked.changesNothing("a fifth", guard, REFUSED, () -> guard.map(1, 1, 1));
        Asked.changesNothing("a fifth", guard, REFUSED, () -> guard.map(8, 64, 16));
    }

    private static void mapsBehindAPass() {
        Asked.says("4 are there, or a PROGRAM passed: REFUSED.");
        FilterGuard guard = row().map(1, 1, 1).move(0, 0).exit().passes("passed");
        Asked.changesNothing("behind a pass", guard, REFUSED, () -> guard.map(1, 1, 1));
        guard.run();
        Asked.changesNothing("behind a run", guard, REFUSED, () -> guard.map(1, 1, 1));
        guard.clear();
        Asked.due("behind clear", 0, guard.map(1, 1, 1));
    }

    private static void mapsBehindAFailure() {
        Asked.says("4 are there, or a PROGRAM passed: REFUSED.");
        FilterGuard guard = row().move(0, 0).fails("no EXIT", 7, 0);
        Asked.due("behind a failure", 0, guard.map(1, 1, 1));
        Asked.due("one is there", 1, guard.count(1));
    }

    private static void adds() {
        Asked.says("An INSTRUCTION more. 200 are there, or a PROGRAM passed: REFUSED. Answers its number.");
        FilterGuard guard = new FilterGuard();
        Asked.due("anything can be added", 0, guard.add(-1, -1, -1, -1, -1));
        Asked.due("anything can be added", 1, guard.add(Integer.MIN_VALUE, Integer.MAX_VALUE, 0, 0, 0));
        for (int i = 2; i < 200; i++) {
            guard.add(113, 0, 0, 0, 0);
        }
        Asked.due("200 are there", 200, guard.count(0));
        Asked.changesNothing("the 201st", guard, REFUSED, () -> guard.add(113, 0, 0, 0, 0));
        Asked.due("check", 1, guard.check());
        Asked.changesNothing("behind a failure too", guard, REFUSED, () -> guard.add(113, 0, 0, 0, 0));
    }

    private static void addsBehindAPass() {
        Asked.says("200 are there, or a PROGRAM passed: REFUSED.");
        FilterGuard guard = row().move(0, 4).exit().passes("passed");
        Asked.changesNothing("behind a pass", guard, REFUSED, () -> guard.add(113, 0, 0, 0, 0));
        Asked.due("it runs as before", 4, guard.run());
        Asked.changesNothing("behind a run", guard, REFUSED, () -> guard.add(-1, 0, 0, 0, 0));
        FilterGuard failed = row().move(0, 4).fails("no EXIT", 7, 0);
        Asked.due("behind a failure", 1, failed.add(113, 0, 0, 0, 0));
        Asked.due("two are there", 2, failed.count(0));
    }

    private static void checks() {
        Asked.says("Answers 0 if it passed, else the FAULT's number (FORM: 1).");
        row().move(0, 0).exit().passes("0");
        row().add(13, 0, 0, 0, 0).fails("1", 1, 0);
        row().exit().fails("2", 2, 0);
        row().copy(0, 1).exit().fails("3", 3, 1);
        row().add(96, 0, 1, 0, 0).exit().fails("4", 4, 0);
        row().add(96, 0, 10, -1, 0).exit().fails("5", 5, 0);
        row().call(4).exit().fails("6", 6, 0);
        row().move(0, 0).fails("7", 7, 0);
        row().add(64, 0, 0, -1, 0).fails("8", 8, 0);
    }

    private static void checksOfNothing() {
        Asked.says("No INSTRUCTION, or it passed already: REFUSED.");
        FilterGuard guard = new FilterGuard();
        Asked.changesNothing("no INSTRUCTION", guard, REFUSED, () -> guard.check());
        guard.map(1, 1, 1);
        guard.feed(1, 2, 3, 4, 5);
        Asked.changesNothing("but a MAP and a PACKET", guard, REFUSED, () -> guard.check());
        guard.add(113, 0, 0, 0, 0);
        Asked.due("one INSTRUCTION", 2, guard.check());
        guard.clear();
        Asked.changesNothing("none again", guard, REFUSED, () -> guard.check());
    }

    private static void checksBehindAPass() {
        Asked.says("No INSTRUCTION, or it passed already: REFUSED.");
        FilterGuard guard = full();
        Asked.changesNothing("it passed already", guard, REFUSED, () -> guard.check());
        Asked.due("it runs as before", 0, guard.run());
    }

    private static void checksAgain() {
        Asked.says("No INSTRUCTION, or it passed already: REFUSED.");
        FilterGuard guard = row().move(0, 0).fails("it didn't pass", 7, 0);
        Asked.due("again, as it is", 7, guard.check());
        Asked.due("the same INSTRUCTION", 0, guard.count(6));
        Asked.due("gone", 1, guard.count(7));
        guard.add(16, 0, 0, 0, 1);
        Asked.due("one more", 7, guard.check());
        Asked.due("the next INSTRUCTION", 1, guard.count(6));
        Asked.due("gone", 2, guard.count(7));
        guard.add(113, 0, 0, 0, 0);
        Asked.due("one more", 0, guard.check());
        Asked.due("gone", 3, guard.count(7));
        for (int i = 0; i < 3; i++) {
            Asked.due("gone once in this CHECKING", 1, guard.known(i, 0, 3));
        }
    }

    private static void checksForget() {
        Asked.says("CHECKING.");
        // What a failed CHECKING knew at its FAULT is not known in the next one.
        FilterGuard guard = row().call(5).copy(6, 0).add(91, 6, 0, 1, 1).move(7, 4).add(107, 10, 0, -8, 5).move(0, 3)
            .fails("with a side that waits", 7, 5);
        guard.add(113, 0, 0, 0, 0);
        Asked.due("now it passes", 0, guard.check());
        Asked.due("gone", 7 + 3, guard.count(7));
        Asked.due("no NUMBER of before", 0, guard.known(0, 7, 2));
        Asked.due("EXIT twice", 2, guard.known(6, 0, 3));
        FilterGuard used = row().move(0, 5).move(6, 7).add(103, 10, 0, -8, 0).add(104, 10, 0, -16, 0).add(17, 0, 0, 0, 1)
            .add(83, 0, 0, -6, 9).exit().fails("a loop from 0, without an end", 8, 4);
        String[] unknown = {"a register", "another register", "what was HELD", "DATA", "LENGTH"};
        int[][] steps = {{113, 0, 0, 0, 0}, {0, 0, 6, 0, 0}, {99, 0, 10, -8, 0}, {96, 0, 10, -16, 0}, {96, 0, 1, 0, 0}};
        int[] due = {2, 2, 5, 5, 4};
        for (int n = 0; n < 5; n++) {
            used.clear();
            used.add(steps[n][0], steps[n][1], steps[n][2], steps[n][3], steps[n][4]);
            used.add(113, 0, 0, 0, 0);
            Asked.due(unknown[n] + " of before isn't KNOWN", due[n], used.check());
        }
        used.clear();
        row().move(7, 1).move(0, 0).exit().giveTo(used);
        used.check();
        for (int what = 0; what <= 2; what++) {
            Asked.due("FORETOLD of before", 0, used.known(0, 0, what));
            Asked.due("FORETOLD of before", 0, used.known(0, 6, what));
            Asked.due("FORETOLD of before", 0, used.known(1, 0, what));
            Asked.due("FORETOLD of before", 0, used.known(1, 6, what));
        }
    }

    private static void clears() {
        Asked.says("All is as at first, but the PACKET and SEED.");
        FilterGuard guard = full();
        guard.seed(1);
        guard.clear();
        int[] due = {0, 0, 20, 0, 0, 0, -1, 0, 0, 0};
        for (int what = 0; what <= 9; what++) {
            Asked.due("count " + what, due[what], guard.count(what));
        }
        Asked.due("the PACKET's bytes", 5, guard.letter(19));
        Asked.missing("no MAP", () -> guard.place(0, 0, -1));
        Asked.missing("no LOG", () -> guard.log(0));
        Asked.missing("nothing FORETOLD", () -> guard.known(0, 0, 3));
        Asked.refused("nothing to check", () -> guard.check());
        Asked.refused("nothing to run", () -> guard.run());
        guard.add(112, 0, 0, 0, 5);
        guard.add(113, 0, 0, 0, 0);
        Asked.due("check", 0, guard.check());
        Asked.due("SEED is 1 still", 1817669548L, guard.run());
        guard.clear();
        guard.add(112, 0, 0, 0, 5);
        guard.add(113, 0, 0, 0, 0);
        guard.check();
        long second = 1L * 6364136223846793005L + 1442695040888963407L;
        Asked.due("and as the last CHANCE left it", (second * 6364136223846793005L + 1442695040888963407L) >>> 32, guard.run());
    }

    private static void clearsAnyState() {
        Asked.says("All is as at first, but the PACKET and SEED.");
        FilterGuard fresh = new FilterGuard();
        fresh.clear();
        Asked.due("of a new one", -1, fresh.count(6));
        FilterGuard failed = row().map(1, 1, 1).move(0, 0).fails("no EXIT", 7, 0);
        failed.clear();
        Asked.due("FAULT", 0, failed.count(5));
        Asked.due("its INSTRUCTION", -1, failed.count(6));
        Asked.due("gone", 0, failed.count(7));
        Asked.due("MAPS", 0, failed.count(1));
        failed.clear();
        Asked.due("twice", 0, failed.count(0));
    }

    private static void clearedMaps() {
        Asked.says("All is as at first, but the PACKET and SEED.");
        FilterGuard guard = full();
        guard.clear();
        guard.map(1, 1, 2);
        Asked.due("a new PLACE is empty", 0, guard.place(0, 0, -1));
        Asked.due("its key is 0", 0, guard.place(0, 0, 0));
        Asked.due("its value is 0", 0, guard.place(0, 0, 1));
        Asked.Row put = row().map(8, 64, 16);
        for (int c = -64; c < 0; c += 8) {
            put.add(107, 10, 0, c, -1);
        }
        FilterGuard wide = put.copy(2, 10).add(17, 2, 0, 0, -8).copy(3, 10).add(17, 3, 0, 0, -64).add(114, 1, 0, 0, 0)
            .call(2).exit().runs("all bytes are 255", 0);
        Asked.due("the last one", 255, wide.place(0, 0, 71));
        wide.clear();
        wide.map(8, 64, 16);
        for (int i = -1; i < 72; i++) {
            Asked.due("byte " + i, 0, wide.place(0, 0, i));
        }
    }

    private static void clearedLimits() {
        Asked.says("All is as at first, but the PACKET and SEED.");
        FilterGuard guard = new FilterGuard();
        for (int m = 0; m < 4; m++) {
            guard.map(1, 1, 1);
        }
        for (int i = 0; i < 200; i++) {
            guard.add(113, 0, 0, 0, 0);
        }
        guard.clear();
        for (int m = 0; m < 4; m++) {
            Asked.due("four MAPS again", m, guard.map(1, 1, 1));
        }
        for (int i = 0; i < 200; i++) {
            guard.add(113, 0, 0, 0, 0);
        }
        Asked.due("200 INSTRUCTIONS again", 200, guard.count(0));
        Asked.refused("no more", () -> guard.add(113, 0, 0, 0, 0));
    }

    private static void feeds() {
        Asked.says("The PACKET gets the twenty bytes of the numbers more, of each the highest first.");
        FilterGuard guard = new FilterGuard();
        Asked.due("its length", 20, guard.feed(0x01020304, 0x85868788, -1, Integer.MIN_VALUE, Integer.MAX_VALUE));
        int[] due = {1, 2, 3, 4, 0x85, 0x86, 0x87, 0x88, 255, 255, 255, 255, 0x80, 0, 0, 0, 0x7F, 255, 255, 255};
        for (int i = 0; i < 20; i++) {
            Asked.due("byte " + i, due[i], guard.letter(i));
        }
        Asked.due("its length", 40, guard.feed(0, 0, 0, 0, 0x0A0B0C0D));
        Asked.due("the first stays", 1, guard.letter(0));
        Asked.due("the last is new", 0x0D, guard.letter(39));
        FilterGuard passed = row().move(0, 0).exit().passes("passed");
        Asked.due("behind a pass too", 20, passed.feed(1, 2, 3, 4, 5));
    }

    private static void feedsTooMuch() {
        Asked.says("More than 400: IndexOutOfBoundsException. Answers its length.");
        FilterGuard guard = new FilterGuard();
        for (int n = 1; n <= 20; n++) {
            Asked.due("length", 20 * n, guard.feed(n, n, n, n, n));
        }
        Asked.changesNothing("420", guard, OUT, () -> guard.feed(9, 9, 9, 9, 9));
        guard.end(19);
        Asked.changesNothing("401", guard, OUT, () -> guard.feed(9, 9, 9, 9, 9));
        guard.end(1);
        Asked.due("400", 400, guard.feed(9, 9, 9, 9, 9));
    }

    private static void ends() {
        Asked.says("The last n bytes of the PACKET go (0 or more, as many must be there; else bad). Answers its length.");
        FilterGuard guard = new FilterGuard();
        Asked.due("0 of none", 0, guard.end(0));
        guard.feed(0x01020304, 0, 0, 0, 0x05060708);
        Asked.due("0", 20, guard.end(0));
        Asked.due("1", 19, guard.end(1));
        Asked.due("the last is another one", 7, guard.letter(18));
        Asked.missing("it's gone", () -> guard.letter(19));
        Asked.due("feed goes on there", 39, guard.feed(0x11000000, 0, 0, 0, 0));
        Asked.due("feed goes on there", 0x11, guard.letter(19));
        Asked.due("all", 0, guard.end(39));
        Asked.missing("none is left", () -> guard.letter(0));
    }

    private static void endsTooMuch() {
        Asked.says("The last n bytes of the PACKET go (0 or more, as many must be there; else bad). Answers its length.");
        FilterGuard guard = new FilterGuard();
        Asked.changesNothing("1 of none", guard, BAD, () -> guard.end(1));
        guard.feed(1, 2, 3, 4, 5);
        for (int n : new int[] {21, -1, Integer.MAX_VALUE, Integer.MIN_VALUE}) {
            Asked.changesNothing("" + n, guard, BAD, () -> guard.end(n));
        }
        Asked.due("20", 0, guard.end(20));
    }

    private static void seeds() {
        Asked.says("`void seed(long s)`: SEED.");
        FilterGuard guard = row().call(5).exit().passes("chance");
        long[] seeds = {0, 1, -1, Asked.LEAST, Asked.GREATEST};
        for (long seed : seeds) {
            guard.seed(seed);
            java.math.BigInteger next = java.math.BigInteger.valueOf(seed)
                .multiply(java.math.BigInteger.valueOf(6364136223846793005L))
                .add(java.math.BigInteger.valueOf(1442695040888963407L));
            Asked.due("SEED " + seed, next.longValue() >>> 32, guard.run());
        }
        FilterGuard early = new FilterGuard();
        early.seed(1);
        early.add(112, 0, 0, 0, 5);
        early.add(113, 0, 0, 0, 0);
        early.check();
        Asked.due("given before all else", 1817669548L, early.run());
    }

    private static void runs() {
        Asked.says("A run of the PROGRAM, if one passed (else REFUSED). LOG is empty before. Answers its outcome.");
        row().constant(6, Asked.LEAST).copy(0, 6).exit().runs("least", Asked.LEAST);
        row().constant(6, Asked.GREATEST).copy(0, 6).exit().runs("greatest", Asked.GREATEST);
        FilterGuard often = row().move(1, 4).call(4).exit().passes("often");
        for (int n = 0; n < 3; n++) {
            Asked.due("run " + n, 0, often.run());
            Asked.due("LOG of run " + n, 1, often.count(3));
        }
    }

    private static void runsRefused() {
        Asked.says("A run of the PROGRAM, if one passed (else REFUSED).");
        FilterGuard guard = new FilterGuard();
        Asked.changesNothing("nothing is there", guard, REFUSED, () -> guard.run());
        guard.add(16, 0, 0, 0, 1);
        Asked.changesNothing("it isn't checked", guard, REFUSED, () -> guard.run());
        guard.check();
        Asked.changesNothing("it failed", guard, REFUSED, () -> guard.run());
        guard.add(113, 0, 0, 0, 0);
        Asked.changesNothing("it isn't checked again", guard, REFUSED, () -> guard.run());
        guard.check();
        Asked.due("it passed", 1, guard.run());
        guard.clear();
        Asked.changesNothing("it's gone", guard, REFUSED, () -> guard.run());
    }

    private static void letters() {
        Asked.says("Byte i of the PACKET. Not there: missing.");
        FilterGuard guard = new FilterGuard();
        Asked.missing("0 of none", () -> guard.letter(0));
        guard.feed(0x80000000, 0, 0, 0, 0xFF);
        Asked.due("the first", 128, guard.letter(0));
        Asked.due("the last", 255, guard.letter(19));
        for (int i : new int[] {-1, 20, 400, Integer.MIN_VALUE, Integer.MAX_VALUE}) {
            Asked.changesNothing("byte " + i, guard, MISSING, () -> guard.letter(i));
        }
    }

    private static void lettersBehindStores() {
        Asked.says("Byte i of the PACKET. Not there: missing.");
        FilterGuard guard = row().copy(7, 1).add(17, 7, 0, 0, 20).move(0, 0).add(68, 7, 2, 1, 0).exit()
            .add(96, 0, 1, 19, 0).add(104, 1, 0, 19, 0xAA).exit().passes("STORE");
        guard.feed(0, 0, 0, 0, 7);
        Asked.due("first run", 7, guard.run());
        Asked.due("what was stored is there", 0xAA, guard.letter(19));
        Asked.due("second run", 0xAA, guard.run());
        guard.clear();
        Asked.due("behind clear too", 0xAA, guard.letter(19));
    }

    private static void places() {
        Asked.says("Of a MAP's PLACE: 1 if it's not empty, else 0 (i -1); byte i (from 0) of its key, and then of its value, 0 at first. Not there: missing.");
        FilterGuard guard = row().map(2, 3, 2).add(107, 10, 0, -8, 0x04030201).add(104, 10, 0, -4, 0xF5).copy(2, 10)
            .add(17, 2, 0, 0, -8).copy(3, 10).add(17, 3, 0, 0, -6).add(114, 1, 0, 0, 0).call(2).exit().runs("PUT", 0);
        int[] due = {1, 1, 2, 3, 4, 0xF5};
        for (int i = -1; i < 5; i++) {
            Asked.due("PLACE 0, " + i, due[i + 1], guard.place(0, 0, i));
            Asked.due("PLACE 1, " + i, 0, guard.place(0, 1, i));
        }
        int[][] missing = {{0, 0, -2}, {0, 0, 5}, {0, 0, Integer.MIN_VALUE}, {0, 0, Integer.MAX_VALUE}, {0, 2, -1}, {0, -1, -1},
            {0, Integer.MIN_VALUE, 0}, {0, Integer.MAX_VALUE, 0}, {1, 0, -1}, {-1, 0, -1}, {4, 0, -1},
            {Integer.MIN_VALUE, 0, 0}, {Integer.MAX_VALUE, 0, 0}};
        for (int[] m : missing) {
            Asked.missing("place " + m[0] + " " + m[1] + " " + m[2], () -> guard.place(m[0], m[1], m[2]));
        }
    }

    private static void placesOfEachMap() {
        Asked.says("Of a MAP's PLACE: 1 if it's not empty, else 0 (i -1)");
        int[][] sizes = {{1, 64, 16}, {8, 1, 1}, {3, 5, 7}, {8, 64, 16}};
        FilterGuard guard = new FilterGuard();
        for (int[] s : sizes) {
            guard.map(s[0], s[1], s[2]);
        }
        for (int m = 0; m < 4; m++) {
            int map = m;
            int bytes = sizes[m][0] + sizes[m][1];
            int last = sizes[m][2] - 1;
            Asked.due("last byte of " + m, 0, guard.place(m, last, bytes - 1));
            Asked.missing("behind it in " + m, () -> guard.place(map, last, bytes));
            Asked.missing("PLACE behind in " + m, () -> guard.place(map, last + 1, -1));
        }
    }

    private static void logs() {
        Asked.says("LOG's number i. Not there: missing.");
        FilterGuard guard = row().move(1, -3).call(4).move(1, 8).call(4).exit().runs("two", 0);
        Asked.due("0", -3, guard.log(0));
        Asked.due("1", 8, guard.log(1));
        for (int i : new int[] {-1, 2, 99, 100, Integer.MIN_VALUE, Integer.MAX_VALUE}) {
            Asked.changesNothing("number " + i, guard, MISSING, () -> guard.log(i));
        }
        FilterGuard before = row().move(1, -3).call(4).exit().passes("before a run");
        Asked.missing("before a run", () -> before.log(0));
    }

    private static void knowns() {
        Asked.says("FORETOLD of INSTRUCTION i and register r: the least low (what 0), the greatest high (1), 1 if it was a NUMBER on a WAY, else 0 (2); how often INSTRUCTION i was gone (3, r may be anything). Where it was none: 0.");
        FilterGuard guard = row().call(5).add(85, 0, 0, 2, 9).move(0, -4).copy(6, 0).exit().passes("two WAYS");
        long[][] due = {{0, 0, 0, 1}, {0, Asked.LOW_32, 1, 1}, {0, 9, 1, 1}, {-4, -4, 1, 1}, {-4, Asked.LOW_32, 1, 2}};
        for (int i = 0; i < 5; i++) {
            for (int what = 0; what <= 3; what++) {
                Asked.due("known " + i + " 0 " + what, due[i][what], guard.known(i, 0, what));
            }
        }
        for (int what = 0; what <= 2; what++) {
            Asked.due("a pointer", 0, guard.known(0, 10, what));
            Asked.due("NONE", 0, guard.known(0, 9, what));
            Asked.due("a register that's NONE behind a CALL", 0, guard.known(1, 1, what));
        }
        for (int r : new int[] {Integer.MIN_VALUE, -1, 0, 10, 11, Integer.MAX_VALUE}) {
            Asked.due("r may be anything", 2, guard.known(4, r, 3));
        }
        FilterGuard left = row().move(0, 1).exit().move(0, 2).exit().passes("never gone");
        for (int what = 0; what <= 3; what++) {
            Asked.due("never gone", 0, left.known(3, 0, what));
        }
    }

    private static void knownsRefused() {
        Asked.says("No PROGRAM passed, or no such one: missing; another what: bad, before.");
        FilterGuard guard = row().move(0, 1).exit().passes("passed");
        for (int what = 0; what <= 3; what++) {
            int w = what;
            Asked.missing("i -1", () -> guard.known(-1, 0, w));
            Asked.missing("i 2", () -> guard.known(2, 0, w));
            Asked.missing("i least", () -> guard.known(Integer.MIN_VALUE, 0, w));
            Asked.missing("i greatest", () -> guard.known(Integer.MAX_VALUE, 0, w));
            if (what < 3) {
                Asked.missing("r -1", () -> guard.known(1, -1, w));
                Asked.missing("r 11", () -> guard.known(1, 11, w));
                Asked.missing("r least", () -> guard.known(1, Integer.MIN_VALUE, w));
                Asked.missing("r greatest", () -> guard.known(1, Integer.MAX_VALUE, w));
                Asked.due("r 10", 0, guard.known(1, 10, w));
            }
        }
        for (int what : new int[] {-1, 4, Integer.MIN_VALUE, Integer.MAX_VALUE}) {
            Asked.bad("what " + what, () -> guard.known(1, 0, what));
            Asked.bad("what " + what + ", before", () -> guard.known(-1, 11, what));
        }
        FilterGuard failed = row().move(0, 1).fails("failed", 7, 0);
        Asked.missing("none passed", () -> failed.known(0, 0, 0));
        Asked.missing("none passed", () -> failed.known(0, 0, 3));
        Asked.bad("bad, before", () -> failed.known(0, 0, 4));
    }

    private static void counts() {
        Asked.says("INSTRUCTIONS (0), MAPS (1), the PACKET's length (2), LOG's numbers (3), 1 if a PROGRAM passed (4)");
        FilterGuard guard = full();
        int[] due = {10, 2, 20, 1, 1, 0, -1, 10, 10, 0};
        for (int what = 0; what <= 9; what++) {
            Asked.due("count " + what, due[what], guard.count(what));
        }
        Asked.says("which must never be (9); else -1.");
        for (int what : new int[] {-1, 10, 11, Integer.MIN_VALUE, Integer.MAX_VALUE}) {
            Asked.due("count " + what, -1, guard.count(what));
        }
    }

    private static void latestFault() {
        Asked.says("the latest FAULT's number (5), the number of its INSTRUCTION, -1 for none (6)");
        FilterGuard guard = row().move(6, 0).exit().fails("the first FAULT", 2, 1);
        Asked.due("until the next check: add", 2, guard.add(113, 0, 0, 0, 0));
        Asked.due("it stays", 2, guard.count(5));
        Asked.due("it stays", 1, guard.count(6));
        guard.add(13, 0, 0, 0, 0);
        Asked.due("the next check", 1, guard.check());
        Asked.due("the next FAULT", 1, guard.count(5));
        Asked.due("its INSTRUCTION", 3, guard.count(6));
        guard.clear();
        Asked.due("behind clear", 0, guard.count(5));
        Asked.due("behind clear", -1, guard.count(6));
        row().move(0, 0).exit().giveTo(guard);
        guard.check();
        Asked.due("behind a pass", 0, guard.count(5));
        Asked.due("behind a pass", -1, guard.count(6));
    }

    private static void latestCheckingAndRun() {
        Asked.says("INSTRUCTIONS gone in the latest CHECKING (7), those done in the latest run (8)");
        FilterGuard guard = row().copy(7, 1).add(17, 7, 0, 0, 1).move(0, 0).add(68, 7, 2, 1, 0).exit().move(0, 1).exit()
            .passes("two WAYS");
        Asked.due("gone", 7, guard.count(7));
        Asked.due("none done yet", 0, guard.count(8));
        guard.run();
        Asked.due("done", 5, guard.count(8));
        guard.feed(1, 2, 3, 4, 5);
        guard.run();
        Asked.due("done", 6, guard.count(8));
        Asked.due("gone is as it was", 7, guard.count(7));
        FilterGuard form = row().move(0, 0).exit().add(13, 0, 0, 0, 0).fails("out of FORM", 1, 2);
        Asked.due("none gone", 0, form.count(7));
        FilterGuard second = row().move(0, 0).move(0, 0).fails("no EXIT", 7, 1);
        Asked.due("gone", 2, second.count(7));
        second.add(13, 0, 0, 0, 0);
        second.check();
        Asked.due("none gone in the latest", 0, second.count(7));
        FilterGuard loop = row().move(0, 0).add(17, 0, 0, 0, 1).add(83, 0, 0, -2, 30).exit().runs("a loop", 30);
        Asked.due("gone", 62, loop.count(7));
        Asked.due("done", 62, loop.count(8));
    }

    private static void strays() {
        Asked.says("reads and writes in runs outside of what's the PROGRAM's, and NUMBERS outside of what's FORETOLD, which must never be (9)");
        FilterGuard guard = full();
        for (int length = 20; length > 0; length--) {
            guard.run();
            Asked.due("never", 0, guard.count(9));
            guard.end(1);
        }
        guard.run();
        Asked.due("never, of an empty PACKET", 0, guard.count(9));
    }
}

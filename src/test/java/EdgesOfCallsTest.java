/** CALLS, sentence by sentence: keys that aren't there, PLACES that are full or were taken, a full LOG, chance. */
public final class EdgesOfCallsTest {
    public static void main(String[] args) {
        outcomeAndRegisters();
        registersAreNothing();
        lookInNothing();
        lookFinds();
        lookIsAPointer();
        lookInItsMapAlone();
        keysByAllBytes();
        keysOfTheirOwnLength();
        putOverOne();
        putInFirstEmpty();
        putWithoutRoom();
        putOverOneWithoutRoom();
        takeLeavesBytes();
        takeOfNothing();
        takenPlaceIsUsedAgain();
        pointerOfTakenPlace();
        keysLikeTakenOnes();
        mapsStay();
        noteLimits();
        noteAnswers();
        logOfEachRun();
        chance();
        Asked.end();
    }

    private static Asked.Row row() {
        return new Asked.Row();
    }

    /** Steps that make one CALL on map 0 with a key and a value of a byte each; they take the STACK's end. */
    private static Asked.Row on(Asked.Row row, int call, int key, int value) {
        return row.add(104, 10, 0, -1, key).add(104, 10, 0, -2, value).copy(2, 10).add(17, 2, 0, 0, -1)
            .copy(3, 10).add(17, 3, 0, 0, -2).add(114, 1, 0, 0, 0).call(call);
    }

    /** A MAP with keys and values of a byte and so many PLACES, and CALLS {number, key, value} but LOOK: the last one's outcome. */
    private static FilterGuard after(int places, long due, int[]... calls) {
        Asked.Row row = row().map(1, 1, places);
        for (int[] c : calls) {
            on(row, c[0], c[1], c[2]);
        }
        return row.exit().runs("the last CALL", due);
    }

    private static int[] put(int key, int value) {
        return new int[] {2, key, value};
    }

    private static int[] take(int key) {
        return new int[] {3, key, 0};
    }

    private static void place(FilterGuard guard, int place, int there, int key, int value) {
        Asked.due("place " + place + " there", there, guard.place(0, place, -1));
        Asked.due("place " + place + " key", key, guard.place(0, place, 0));
        Asked.due("place " + place + " value", value, guard.place(0, place, 1));
    }

    private static void outcomeAndRegisters() {
        Asked.says("CALLS: register 0 becomes the outcome, 1 .. 5 nothing.");
        for (int call = 2; call <= 4; call++) {
            Asked.Row row = row().map(1, 1, 1).move(0, 77);
            on(row, call == 4 ? 2 : call, 1, 1);
            if (call == 4) {
                row.move(0, 77).move(1, 5).call(4);
            }
            row.exit().runs("outcome of " + call, call == 3 ? 1 : 0);
        }
        row().copy(0, 10).call(5).exit().passes("a pointer in 0 before is gone");
    }

    private static void registersAreNothing() {
        Asked.says("CALLS: register 0 becomes the outcome, 1 .. 5 nothing.");
        for (int call = 1; call <= 5; call++) {
            for (int r = 1; r <= 9; r++) {
                Asked.Row row = row().map(1, 1, 1);
                for (int each = 4; each <= 9; each++) {
                    row.move(each, each);
                }
                on(row, call <= 3 ? call : 2, 1, 1);
                if (call > 3) {
                    for (int each = 1; each <= 5; each++) {
                        row.move(each, each);
                    }
                    row.call(call);
                }
                int at = row.size();
                row.copy(0, r).exit();
                if (r <= 5) {
                    row.fails("CALL " + call + ": register " + r, 2, at);
                } else {
                    row.runs("CALL " + call + ": register " + r, r);
                }
            }
        }
    }

    /** LOOK for a key behind what's there: the value's byte + 1000, or 0. */
    private static Asked.Row look(Asked.Row row, int key) {
        return on(row, 1, key, 0).add(82, 0, 0, 1, 0).exit().add(96, 0, 0, 0, 0).add(17, 0, 0, 0, 1000);
    }

    private static void lookInNothing() {
        Asked.says("1 LOOK: MAP in 1, key at 2: a pointer to the value, or 0.");
        look(row().map(1, 1, 1), 0).exit().runs("LOOK for key 0 in an empty MAP", 0);
        look(row().map(1, 1, 16), 7).exit().runs("LOOK in an empty MAP", 0);
        look(on(row().map(1, 1, 1), 2, 7, 70), 8).exit().runs("LOOK for another key", 0);
        FilterGuard guard = look(row().map(1, 1, 1), 7).exit().runs("LOOK", 0);
        place(guard, 0, 0, 0, 0);
    }

    private static void lookFinds() {
        Asked.says("1 LOOK: MAP in 1, key at 2: a pointer to the value, or 0.");
        look(on(row().map(1, 1, 1), 2, 7, 70), 7).exit().runs("the only PLACE", 1070);
        Asked.Row row = row().map(1, 1, 16).move(6, 0);
        int start = row.size();
        row.add(100, 10, 6, -1, 0).add(100, 10, 6, -2, 0).copy(2, 10).add(17, 2, 0, 0, -1).copy(3, 10)
            .add(17, 3, 0, 0, -2).add(114, 1, 0, 0, 0).call(2).add(17, 6, 0, 0, 1);
        row.add(83, 6, 0, start - row.size() - 1, 16);
        look(row, 15).exit().runs("the last of 16 PLACES", 1015);
    }

    private static void lookIsAPointer() {
        Asked.says("1 LOOK: MAP in 1, key at 2: a pointer to the value, or 0.");
        Asked.Row row = on(on(row().map(1, 1, 2), 2, 7, 70), 2, 8, 80);
        on(row, 1, 8, 0).add(82, 0, 0, 1, 0).exit().add(104, 0, 0, 0, 81);
        FilterGuard guard = look(row, 8).exit().runs("what was written is there", 1081);
        place(guard, 0, 1, 7, 70);
        place(guard, 1, 1, 8, 81);
    }

    /** Steps for one CALL on a map by its number, with key and value from where they stand on the STACK. */
    private static Asked.Row onMap(Asked.Row row, int map, int call, int keyAt, int valueAt) {
        return row.copy(2, 10).add(17, 2, 0, 0, keyAt).copy(3, 10).add(17, 3, 0, 0, valueAt).add(114, 1, 0, 0, map).call(call);
    }

    private static void lookInItsMapAlone() {
        Asked.says("1 LOOK: MAP in 1, key at 2: a pointer to the value, or 0.");
        for (int map = 0; map < 4; map++) {
            for (int other = 0; other < 4; other++) {
                Asked.Row row = row().map(1, 1, 16).map(1, 1, 16).map(1, 1, 16).map(1, 1, 16)
                    .add(104, 10, 0, -1, 7).add(104, 10, 0, -2, 70);
                onMap(onMap(row, other, 2, -1, -2), map, 1, -1, -2).add(82, 0, 0, 1, 0).exit().add(96, 0, 0, 0, 0).exit();
                row.runs("LOOK in " + map + " for what's in " + other, map == other ? 70 : 0);
                Asked.Row take = row().map(1, 1, 16).map(1, 1, 16).map(1, 1, 16).map(1, 1, 16)
                    .add(104, 10, 0, -1, 7).add(104, 10, 0, -2, 70);
                FilterGuard guard = onMap(onMap(take, other, 2, -1, -2), map, 3, -1, -2).exit()
                    .runs("TAKE in " + map + " of what's in " + other, map == other ? 0 : 1);
                Asked.due("it's there still", map == other ? 0 : 1, guard.place(other, 0, -1));
            }
        }
    }

    private static void keysOfTheirOwnLength() {
        Asked.says("a key of 1 to 8 bytes");
        // A long key that isn't found goes before a short one; and a key of 8 bytes is found by all of them.
        Asked.Row row = row().map(8, 1, 2).map(1, 2, 2).add(107, 10, 0, -8, -1).add(105, 10, 0, -10, 0x0907);
        onMap(onMap(onMap(row, 0, 3, -8, -8), 1, 2, -10, -10), 0, 3, -8, -8);
        FilterGuard guard = onMap(row, 1, 2, -10, -10).exit().runs("the short key is found again", 0);
        Asked.due("in its PLACE", 7, guard.place(1, 0, 0));
        Asked.due("its value", 9, guard.place(1, 0, 2));
        Asked.due("no other PLACE", 0, guard.place(1, 1, -1));
        Asked.Row whole = row().map(8, 1, 2).add(107, 10, 0, -8, -1).add(104, 10, 0, -9, 1);
        onMap(whole, 0, 2, -8, -9).add(104, 10, 0, -9, 2);
        FilterGuard same = onMap(whole, 0, 2, -8, -9).exit().runs("all 8 bytes are the same", 0);
        Asked.due("the same PLACE", 2, same.place(0, 0, 8));
        Asked.due("no other one", 0, same.place(0, 1, -1));
    }

    private static void keysByAllBytes() {
        Asked.says("the PLACE with that key gets it");
        Asked.Row row = row().map(8, 1, 3);
        for (int last = 0; last < 3; last++) {
            // Three keys that differ in their last byte, or the first.
            row.add(107, 10, 0, -8, 5).add(104, 10, 0, last == 2 ? -8 : -1, 6 + last).add(104, 10, 0, -9, last)
                .copy(2, 10).add(17, 2, 0, 0, -8).copy(3, 10).add(17, 3, 0, 0, -9).add(114, 1, 0, 0, 0).call(2);
        }
        FilterGuard guard = row.exit().runs("keys of 8 bytes", 0);
        int[][] due = {{5, 6}, {5, 7}, {8, 0}};
        for (int p = 0; p < 3; p++) {
            Asked.due("each its PLACE", 1, guard.place(0, p, -1));
            Asked.due("first byte", due[p][0], guard.place(0, p, 0));
            Asked.due("last byte", due[p][1], guard.place(0, p, 7));
            Asked.due("value", p, guard.place(0, p, 8));
        }
    }

    private static void putOverOne() {
        Asked.says("the PLACE with that key gets it");
        FilterGuard guard = after(3, 0, put(7, 70), put(8, 80), put(7, 71));
        place(guard, 0, 1, 7, 71);
        place(guard, 1, 1, 8, 80);
        place(guard, 2, 0, 0, 0);
        FilterGuard behind = after(3, 0, put(7, 70), put(8, 80), take(7), put(8, 81));
        place(behind, 0, 0, 7, 70);
        place(behind, 1, 1, 8, 81);
    }

    private static void putInFirstEmpty() {
        Asked.says("or the first empty one: 0; none: 1.");
        FilterGuard guard = after(3, 0, put(7, 70), put(8, 80));
        place(guard, 0, 1, 7, 70);
        place(guard, 1, 1, 8, 80);
        place(guard, 2, 0, 0, 0);
        FilterGuard last = after(2, 0, put(7, 70), put(8, 80));
        place(last, 1, 1, 8, 80);
    }

    private static void putWithoutRoom() {
        Asked.says("or the first empty one: 0; none: 1.");
        FilterGuard one = after(1, 1, put(7, 70), put(8, 80));
        place(one, 0, 1, 7, 70);
        FilterGuard two = after(2, 1, put(7, 70), put(8, 80), put(9, 90));
        place(two, 0, 1, 7, 70);
        place(two, 1, 1, 8, 80);
        int[][] most = new int[17][];
        for (int n = 0; n < 17; n++) {
            most[n] = put(n, n + 100);
        }
        FilterGuard full = after(16, 1, most);
        for (int p = 0; p < 16; p++) {
            place(full, p, 1, p, p + 100);
        }
    }

    private static void putOverOneWithoutRoom() {
        Asked.says("the PLACE with that key gets it");
        FilterGuard guard = after(2, 0, put(7, 70), put(8, 80), put(8, 81));
        place(guard, 0, 1, 7, 70);
        place(guard, 1, 1, 8, 81);
    }

    private static void takeLeavesBytes() {
        Asked.says("its PLACE is empty then (the bytes stay there): 0; not there: 1.");
        FilterGuard guard = after(2, 0, put(7, 70), put(8, 80), take(7));
        place(guard, 0, 0, 7, 70);
        place(guard, 1, 1, 8, 80);
        FilterGuard last = after(2, 0, put(7, 70), put(8, 80), take(8));
        place(last, 0, 1, 7, 70);
        place(last, 1, 0, 8, 80);
    }

    private static void takeOfNothing() {
        Asked.says("its PLACE is empty then (the bytes stay there): 0; not there: 1.");
        place(after(1, 1, take(7)), 0, 0, 0, 0);
        after(1, 1, take(0));
        place(after(1, 1, put(7, 70), take(8)), 0, 1, 7, 70);
        place(after(1, 1, put(7, 70), take(7), take(7)), 0, 0, 7, 70);
    }

    private static void takenPlaceIsUsedAgain() {
        Asked.says("or the first empty one: 0; none: 1.");
        FilterGuard guard = after(2, 0, put(7, 70), put(8, 80), take(7), put(9, 90));
        place(guard, 0, 1, 9, 90);
        place(guard, 1, 1, 8, 80);
        FilterGuard first = after(3, 0, put(7, 70), put(8, 80), put(9, 90), take(9), take(7), put(5, 50));
        place(first, 0, 1, 5, 50);
        place(first, 2, 0, 9, 90);
        FilterGuard again = after(2, 0, put(7, 70), put(8, 80), take(7), take(8), put(8, 81));
        place(again, 0, 1, 8, 81);
        place(again, 1, 0, 8, 80);
    }

    private static void pointerOfTakenPlace() {
        Asked.says("(the bytes stay there)");
        Asked.Row row = on(on(row().map(1, 1, 1), 2, 7, 70), 1, 7, 0).copy(6, 0).add(82, 6, 0, 2, 0).move(0, 0).exit();
        on(row, 3, 7, 0).add(96, 0, 6, 0, 0).add(104, 6, 0, 0, 71).exit();
        FilterGuard guard = row.runs("the pointer to a taken value", 70);
        place(guard, 0, 0, 7, 71);
        Asked.due("no stray", 0, guard.count(9));
    }

    private static void keysLikeTakenOnes() {
        Asked.says("1 LOOK: MAP in 1, key at 2: a pointer to the value, or 0.");
        look(on(on(row().map(1, 1, 1), 2, 7, 70), 3, 7, 0), 7).exit().runs("a taken key isn't found", 0);
        look(on(on(on(row().map(1, 1, 2), 2, 7, 70), 3, 7, 0), 2, 7, 71), 7).exit().runs("put again, it is", 1071);
    }

    private static void mapsStay() {
        Asked.says("MAPS 0 .. 3: a key of 1 to 8 bytes, values of 1 to 64, 1 to 16 PLACES, each empty or with a key and a value.");
        FilterGuard guard = on(row().map(1, 1, 2), 2, 7, 70).exit().runs("first run", 0);
        Asked.due("second run", 0, guard.run());
        place(guard, 0, 1, 7, 70);
        place(guard, 1, 0, 0, 0);
        Asked.Row once = row().map(1, 1, 2);
        on(once, 3, 7, 0).copy(6, 0);
        FilterGuard turns = on(once, 2, 7, 70).copy(0, 6).exit().runs("not there in the first run", 1);
        Asked.due("there in the second", 0, turns.run());
    }

    /** NOTE of 0, 1 .. as often as told. */
    private static Asked.Row notes(int often) {
        return row().move(6, 0).copy(1, 6).call(4).add(17, 6, 0, 0, 1).add(83, 6, 0, -4, often);
    }

    private static void noteLimits() {
        Asked.says("4 NOTE: LOG gets register 1 (at most 100, more are lost): 0.");
        for (int often : new int[] {1, 99, 100, 101, 150}) {
            FilterGuard guard = notes(often).exit().runs(often + " NOTES", 0);
            int kept = Math.min(often, 100);
            Asked.due(often + " NOTES: kept", kept, guard.count(3));
            Asked.due(often + " NOTES: the first", 0, guard.log(0));
            Asked.due(often + " NOTES: the last", kept - 1, guard.log(kept - 1));
            Asked.missing(often + " NOTES: behind it", () -> guard.log(kept));
        }
    }

    private static void noteAnswers() {
        Asked.says("4 NOTE: LOG gets register 1 (at most 100, more are lost): 0.");
        FilterGuard guard = notes(100).move(0, 9).move(1, 5).call(4).exit().runs("one that is lost answers 0 too", 0);
        Asked.due("it isn't there", 99, guard.log(99));
        FilterGuard ends = row().constant(1, Asked.LEAST).call(4).constant(1, Asked.GREATEST).call(4).exit()
            .runs("the ends", 0);
        Asked.due("least", Asked.LEAST, ends.log(0));
        Asked.due("greatest", Asked.GREATEST, ends.log(1));
    }

    private static void logOfEachRun() {
        Asked.says("LOG is empty before.");
        FilterGuard guard = row().copy(7, 1).add(17, 7, 0, 0, 1).move(0, 0).add(69, 7, 2, 3, 0).move(1, 5).call(4).exit()
            .exit().given();
        Asked.due("check", 0, guard.check());
        guard.feed(0, 0, 0, 0, 0);
        guard.run();
        Asked.due("one NOTE", 1, guard.count(3));
        guard.run();
        Asked.due("one NOTE again", 1, guard.count(3));
        guard.end(20);
        guard.run();
        Asked.due("none in the next run", 0, guard.count(3));
        Asked.missing("none in the next run", () -> guard.log(0));
    }

    private static void chance() {
        Asked.says("5 CHANCE: SEED is SEED * 6364136223846793005 + 1442695040888963407: its highest 32 bits.");
        FilterGuard guard = row().call(5).exit().passes("chance");
        Asked.due("of SEED 0", 335903614L, guard.run());
        Asked.due("goes on", 436792849L, guard.run());
        guard.seed(0);
        Asked.due("of SEED 0 again", 335903614L, guard.run());
        guard.seed(1);
        Asked.due("of SEED 1", 1817669548L, guard.run());
        guard.seed(-1);
        Asked.due("of SEED -1", 3149104977L, guard.run());
        row().call(5).call(5).exit().runs("twice in one run", 436792849L);
    }
}

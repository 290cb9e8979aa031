import java.util.ArrayList;
import java.util.List;

/**
 * A second telling of what a run does, for the tests: pointers are objects here, never numbers, so
 * that a program that mixes them up, or leaves its memory, throws.
 */
final class Model {
    /** What a register holds; all copies of one LOOK's answer are one object. */
    static final class Value {
        /** The memory that it points into, or null. */
        byte[] memory;
        int map = -1;
        long number;
        /** A LOOK's answer that no condition has looked at yet. */
        boolean maybe;

        boolean isNumber() {
            return memory == null && map < 0 && !maybe;
        }
    }

    /** Told of each instruction before it's done. */
    interface Witness {
        void begins(int i, Value[] registers);
    }

    final List<int[]> steps;
    final List<int[]> maps;
    byte[] packet = new byte[0];
    long seed;
    final List<Long> log = new ArrayList<>();
    final byte[][][] keys;
    final byte[][][] values;
    final boolean[][] taken;
    int done;
    private Value[] registers;
    private byte[] stack;
    private Value[] held;

    Model(Asked.Row row) {
        steps = row.steps;
        maps = row.maps;
        keys = new byte[maps.size()][][];
        values = new byte[maps.size()][][];
        taken = new boolean[maps.size()][];
        for (int m = 0; m < maps.size(); m++) {
            int places = maps.get(m)[2];
            keys[m] = new byte[places][maps.get(m)[0]];
            values[m] = new byte[places][maps.get(m)[1]];
            taken[m] = new boolean[places];
        }
    }

    private static Value number(long number) {
        Value v = new Value();
        v.number = number;
        return v;
    }

    private static Value pointer(byte[] memory, long offset) {
        Value v = new Value();
        v.memory = memory;
        v.number = offset;
        return v;
    }

    long run(Witness witness) {
        log.clear();
        registers = new Value[11];
        stack = new byte[64];
        held = new Value[8];
        registers[1] = pointer(packet, 0);
        registers[2] = pointer(packet, packet.length);
        registers[10] = pointer(stack, 64);
        done = 0;
        int i = 0;
        while (true) {
            witness.begins(i, registers);
            done++;
            int[] s = steps.get(i);
            if (s[0] == 113) {
                return plain(registers[0]);
            }
            i = s[0] == 64 ? i + 1 + s[3] : s[0] >= 65 && s[0] <= 91 && decide(s) ? i + 1 + s[3] : i + 1;
            if (s[0] <= 60) {
                operate(s);
            } else if (s[0] >= 96 && s[0] <= 99) {
                load(s);
            } else if (s[0] >= 100 && s[0] <= 107) {
                store(s);
            } else if (s[0] == 112) {
                call(s[4]);
            } else if (s[0] == 114) {
                registers[s[1]] = new Value();
                registers[s[1]].map = s[4];
            }
        }
    }

    private static long plain(Value v) {
        if (!v.isNumber()) {
            throw new IllegalStateException("a pointer as a number");
        }
        return v.number;
    }

    private void operate(int[] s) {
        Value b = (s[0] & 16) != 0 ? number(s[4]) : registers[s[2]];
        Value a = registers[s[1]];
        if (s[0] == 0) {
            registers[s[1]] = b;
        } else if (s[0] % 16 == 1 && s[0] < 32 && a.memory != null) {
            registers[s[1]] = pointer(a.memory, a.number + plain(b));
        } else if (s[0] == 1 && b.memory != null) {
            registers[s[1]] = pointer(b.memory, b.number + plain(a));
        } else if (s[0] % 16 == 2 && s[0] < 32 && a.memory != null) {
            registers[s[1]] = pointer(a.memory, a.number - plain(b));
        } else {
            long x = s[0] % 16 == 0 ? 0 : plain(a);
            long y = s[0] % 16 == 12 ? 0 : plain(b);
            registers[s[1]] = number(NumbersTest.outcome(s[0], x, y));
        }
    }

    private boolean decide(int[] s) {
        Value a = registers[s[1]];
        if (a.maybe) {
            a.maybe = false;
            return (a.memory == null) == (s[0] == 81);
        }
        Value b = s[0] >= 81 ? number(s[4]) : registers[s[2]];
        if (a.memory != null && a.memory != b.memory || a.memory == null && !b.isNumber()) {
            throw new IllegalStateException("pointers that can't be compared");
        }
        int relation = s[0] >= 81 ? s[0] - 16 : s[0];
        long x = a.number;
        long y = b.number;
        // Offsets may be negative, addresses not.
        int unsigned = a.memory != null ? Long.compare(x, y) : Long.compareUnsigned(x, y);
        boolean[] all = {x == y, x != y, unsigned < 0, unsigned <= 0, unsigned > 0, unsigned >= 0,
            x < y, x <= y, x > y, x >= y, (x & y) != 0};
        return all[relation - 65];
    }

    private void load(int[] s) {
        int bytes = 1 << s[0] - 96;
        Value base = registers[s[2]];
        int from = Math.toIntExact(base.number + s[3]);
        if (base.memory == stack && bytes == 8 && from % 8 == 0 && held[from / 8] != null) {
            registers[s[1]] = held[from / 8];
            return;
        }
        long number = 0;
        for (int b = bytes - 1; b >= 0; b--) {
            number = number << 8 | base.memory[from + b] & 255;
        }
        registers[s[1]] = number(number);
    }

    private void store(int[] s) {
        int bytes = 1 << (s[0] & 3);
        Value base = registers[s[1]];
        Value what = s[0] >= 104 ? number(s[4]) : registers[s[2]];
        int from = Math.toIntExact(base.number + s[3]);
        boolean whole = base.memory == stack && bytes == 8 && from % 8 == 0;
        if (whole && !what.isNumber()) {
            // All that can be read of it byte by byte is a LOOK's 0.
            java.util.Arrays.fill(stack, from, from + 8, (byte) 0);
            held[from / 8] = what;
            return;
        }
        for (int b = 0; b < bytes; b++) {
            base.memory[from + b] = (byte) (plain(what) >> 8 * b);
            if (base.memory == stack) {
                held[(from + b) / 8] = null;
            }
        }
    }

    private void call(int number) {
        Value outcome = number(0);
        if (number <= 3) {
            outcome = onMap(number, registers[1].map);
        } else if (number == 4) {
            if (log.size() < 100) {
                log.add(plain(registers[1]));
            }
        } else {
            seed = seed * 6364136223846793005L + 1442695040888963407L;
            outcome = number(seed >>> 32);
        }
        for (int r = 1; r <= 5; r++) {
            registers[r] = null;
        }
        registers[0] = outcome;
    }

    private byte[] read(Value from, int bytes) {
        return java.util.Arrays.copyOfRange(from.memory, (int) from.number, (int) from.number + bytes);
    }

    private Value onMap(int number, int m) {
        byte[] key = read(registers[2], maps.get(m)[0]);
        int found = -1;
        int empty = -1;
        for (int p = taken[m].length - 1; p >= 0; p--) {
            found = taken[m][p] && java.util.Arrays.equals(keys[m][p], key) ? p : found;
            empty = taken[m][p] ? empty : p;
        }
        if (number == 1) {
            Value v = found < 0 ? number(0) : pointer(values[m][found], 0);
            v.maybe = true;
            return v;
        }
        if (number == 3) {
            if (found >= 0) {
                taken[m][found] = false;
            }
            return number(found >= 0 ? 0 : 1);
        }
        int place = found >= 0 ? found : empty;
        if (place < 0) {
            return number(1);
        }
        taken[m][place] = true;
        System.arraycopy(key, 0, keys[m][place], 0, key.length);
        byte[] value = read(registers[3], maps.get(m)[1]);
        System.arraycopy(value, 0, values[m][place], 0, value.length);
        return number(0);
    }
}

import java.util.ArrayList;
import java.util.Arrays;
import java.util.HashMap;
import java.util.List;
import java.util.Map;

/**
 * The whole document read a second time, with the Java library and without a thought
 * for room or speed; SecondReadingTest asks this and the class the same calls.
 */
final class SecondReading {
    static final class Ends extends RuntimeException {
        private static final long serialVersionUID = 1L;
    }

    private static final class Source {
        int number;
        int size;
        boolean startFails;
        final List<int[]> rows = new ArrayList<>();
    }

    private static final class Type {
        int number;
        int unit;
        Source source;
        List<int[]> rows;
        byte[] bytes;
        byte[] working;
        boolean startFailed;
        boolean dropped;
    }

    private static final class Unit {
        int number;
        boolean ended;
        final Map<Integer, Type> latest = new HashMap<>();
        boolean ran;
        int raised;
        int ender;
        int with;
        int steps;
        List<Integer> marks = new ArrayList<>();
    }

    private final List<Source> sources = new ArrayList<>();
    private final List<Unit> units = new ArrayList<>();
    private final List<Type> types = new ArrayList<>();

    private static <T> T numbered(List<T> all, int number) {
        return number < 1 || number > all.size() ? null : all.get(number - 1);
    }

    int program(int size, boolean startFails) {
        if (size < 1 || size > 100) {
            return -4;
        }
        if (sources.size() == 12) {
            return -1;
        }
        Source s = new Source();
        s.number = sources.size() + 1;
        s.size = size;
        s.startFails = startFails;
        sources.add(s);
        return s.number;
    }

    private static boolean within(int i, int low, int high) {
        return low <= i && i <= high;
    }

    private static boolean isSo(int op, int a, int b, int size) {
        boolean x = within(a, 0, size - 1);
        boolean y = within(b, 0, size - 1);
        return switch (op) {
            case 0, 13 -> x && within(b, -128, 127);
            case 1, 2, 3, 4, 5, 6, 7 -> x && y;
            case 8 -> x && within(b, 1, 61);
            case 9 -> within(b, 1, 61);
            case 10 -> within(a, 1, 12);
            case 11, 12 -> within(a, 0, 127);
            default -> false;
        };
    }

    int code(int program, int op, int a, int b) {
        Source s = numbered(sources, program);
        if (s == null) {
            return -2;
        }
        if (!isSo(op, a, b, s.size)) {
            return -4;
        }
        if (s.rows.size() == 60) {
            return -1;
        }
        s.rows.add(new int[] {op, a, b});
        return s.rows.size();
    }

    int unit() {
        if (units.size() == 8) {
            return -1;
        }
        Unit u = new Unit();
        u.number = units.size() + 1;
        units.add(u);
        return u.number;
    }

    private Type typeFor(Unit u, Source s) {
        byte[] bytes = ClassFileTest.written(s.number, s.size, s.startFails, s.rows.toArray(new int[0][]), s.rows.size());
        Type old = u.latest.get(s.number);
        if (old != null && Arrays.equals(old.bytes, bytes)) {
            return old;
        }
        if (types.size() == 40) {
            return null;
        }
        if (old != null) {
            old.dropped = true;
            old.working = null;
        }
        Type t = new Type();
        t.number = types.size() + 1;
        t.unit = u.number;
        t.source = s;
        t.rows = new ArrayList<>(s.rows);
        t.bytes = bytes;
        types.add(t);
        u.latest.put(s.number, t);
        return t;
    }

    int make(int unit, int program) {
        Unit u = numbered(units, unit);
        Source s = numbered(sources, program);
        if (u == null || s == null) {
            return -2;
        }
        if (u.ended) {
            return -5;
        }
        Type t = typeFor(u, s);
        return t == null ? -1 : t.number;
    }

    int run(int unit, int program) {
        Unit u = numbered(units, unit);
        Source s = numbered(sources, program);
        if (u == null || s == null) {
            return -2;
        }
        if (u.ended || !u.latest.containsKey(program)) {
            return -5;
        }
        u.ran = true;
        u.raised = 0;
        u.ender = -1;
        u.with = -1;
        u.steps = 0;
        u.marks = new ArrayList<>();
        try {
            enter(u, u.latest.get(program), 0);
        } catch (Ends e) {
            // what it ended by stands in the unit
        }
        return u.raised == 0 ? 1 : 2;
    }

    private static Ends abend(Unit u, Type t, int by) {
        u.raised = by;
        u.ender = t.source.number;
        u.ended = by == 5;
        return new Ends();
    }

    private void enter(Unit u, Type t, int others) {
        if (t.working == null) {
            if (t.source.startFails) {
                t.startFailed = true;
                throw abend(u, t, 5);
            }
            t.working = new byte[t.source.size];
        }
        int row = 1;
        while (row <= t.rows.size()) {
            if (u.steps == 1000) {
                throw abend(u, t, 7);
            }
            u.steps++;
            row = step(u, t, row, others);
        }
    }

    private int step(Unit u, Type t, int row, int others) {
        int op = t.rows.get(row - 1)[0];
        int a = t.rows.get(row - 1)[1];
        int b = t.rows.get(row - 1)[2];
        byte[] w = t.working;
        switch (op) {
            case 0 -> w[a] = (byte) b;
            case 1 -> w[a] = w[b];
            case 2 -> w[a] += w[b];
            case 3 -> w[a] -= w[b];
            case 4 -> w[a] *= w[b];
            case 5, 6 -> {
                if (w[b] == 0) {
                    throw abend(u, t, 1);
                }
                w[a] = (byte) (op == 5 ? w[a] / w[b] : w[a] % w[b]);
            }
            case 7 -> {
                if (!within(w[a], 0, w.length - 1)) {
                    throw abend(u, t, 2);
                }
                w[w[a]] = w[b];
            }
            case 8 -> {
                return w[a] == 0 ? b : row + 1;
            }
            case 9 -> {
                return b;
            }
            case 10 -> call(u, t, a, others);
            case 11 -> {
                if (u.marks.size() < 100) {
                    u.marks.add(a);
                }
            }
            case 12 -> {
                u.ended = true;
                u.ender = t.source.number;
                u.with = a;
                throw new Ends();
            }
            default -> {
                if (w[a] > b) {
                    throw abend(u, t, 4);
                }
            }
        }
        return row + 1;
    }

    private void call(Unit u, Type caller, int program, int others) {
        if (others == 10) {
            throw abend(u, caller, 3);
        }
        Source s = numbered(sources, program);
        if (s == null) {
            throw abend(u, caller, 6);
        }
        Type t = u.latest.containsKey(program) ? u.latest.get(program) : typeFor(u, s);
        if (t == null) {
            throw abend(u, caller, 6);
        }
        enter(u, t, others + 1);
    }

    /** A working byte; null when there is none such. */
    Byte at(int unit, int program, int i) {
        Unit u = numbered(units, unit);
        Type t = u == null ? null : u.latest.get(program);
        return t == null || t.working == null || !within(i, 0, t.working.length - 1) ? null : (Byte) t.working[i];
    }

    int raised(int unit) {
        Unit u = numbered(units, unit);
        return u == null ? -2 : u.raised;
    }

    int told(int unit, int what) {
        Unit u = numbered(units, unit);
        if (u == null) {
            return -2;
        }
        if (!u.ran || !within(what, 0, 3)) {
            return -1;
        }
        return new int[] {u.ender, u.with, u.steps, u.marks.size()}[what];
    }

    int mark(int unit, int i) {
        Unit u = numbered(units, unit);
        return u == null || !within(i, 0, u.marks.size() - 1) ? -1 : u.marks.get(i);
    }

    /** A byte of a class file; null when there is none such. */
    Byte octet(int type, int i) {
        Type t = numbered(types, type);
        return t == null || !within(i, 0, t.bytes.length - 1) ? null : (Byte) t.bytes[i];
    }

    boolean shares(int unit, int other) {
        for (Type t : types) {
            if (t.unit == unit && t.unit == other) {
                return true;
            }
        }
        return false;
    }

    int cancel(int unit, int program) {
        Unit u = numbered(units, unit);
        if (u == null || numbered(sources, program) == null) {
            return -2;
        }
        if (u.ended) {
            return -5;
        }
        Type t = u.latest.get(program);
        if (t == null || t.working == null) {
            return 0;
        }
        t.working = null;
        return 1;
    }

    int state(int type) {
        Type t = numbered(types, type);
        if (t == null) {
            return -2;
        }
        if (t.startFailed) {
            return 2;
        }
        return units.get(t.unit - 1).ended ? 4 : t.dropped ? 3 : t.working != null ? 1 : 0;
    }

    int count(int what) {
        return switch (what) {
            case 0 -> sources.size();
            case 1 -> units.size();
            case 2 -> types.size();
            case 3 -> types.isEmpty() ? 0 : types.get(types.size() - 1).bytes.length;
            default -> -1;
        };
    }
}

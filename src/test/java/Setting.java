/** Objects made ready for a test, and the values around an edge. */
final class Setting {
    /** Numbers that no unit, program or class ever has. */
    static final int[] NEVER = {Integer.MIN_VALUE, -1, 0, 41, Integer.MAX_VALUE};

    private Setting() {
    }

    /** Programs 1 .. n of one working byte, without rows, and unit 1. */
    static ClassMaker4 programs(int n) {
        ClassMaker4 x = new ClassMaker4();
        for (int p = 1; p <= n; p++) {
            Check.due("program " + p, x.program(1, false), p);
        }
        Check.due("unit", x.unit(), 1);
        return x;
    }

    /** Program 1 of a size, and unit 1. */
    static ClassMaker4 sized(int size) {
        ClassMaker4 x = new ClassMaker4();
        Check.due("program of " + size, x.program(size, false), 1);
        Check.due("unit", x.unit(), 1);
        return x;
    }

    /** Rows for a program: op, a, b of each one. */
    static void rows(ClassMaker4 x, int program, int... parts) {
        for (int i = 0; i + 2 < parts.length; i += 3) {
            int row = x.code(program, parts[i], parts[i + 1], parts[i + 2]);
            Check.due("code(" + program + ", " + parts[i] + ", " + parts[i + 1] + ", " + parts[i + 2] + ") is taken", row > 0, true);
        }
    }

    static void sameRows(ClassMaker4 x, int program, int times, int op, int a, int b) {
        for (int i = 0; i < times; i++) {
            rows(x, program, op, a, b);
        }
    }

    static int runNew(ClassMaker4 x, int unit, int program) {
        Check.due("make(" + unit + ", " + program + ") makes one", x.make(unit, program) > 0, true);
        return x.run(unit, program);
    }

    /** Units 2 .. 8 and classes there, until there are so many classes in all; needs 12 programs. */
    static void fillClasses(ClassMaker4 x, int upTo) {
        for (int u = 2; u <= 8; u++) {
            if (x.count(1) < u) {
                Check.due("unit " + u, x.unit(), u);
            }
            for (int p = 1; p <= 12 && x.count(2) < upTo; p++) {
                x.make(u, p);
            }
        }
        Check.due("classes", x.count(2), upTo);
    }

    /** Unit 1 ends by a stop of the program, which must have no rows yet. */
    static void endByStop(ClassMaker4 x, int program) {
        rows(x, program, 12, 0, 0);
        Check.due("the stop", runNew(x, 1, program), 1);
    }
}

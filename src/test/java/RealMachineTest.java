import java.lang.reflect.Field;
import java.lang.reflect.InvocationTargetException;
import java.lang.reflect.Method;
import java.util.ArrayList;
import java.util.List;
import java.util.Random;

/**
 * The class files are loaded and run by the Java machine itself: it takes their bytes,
 * and comes to the answers, marks and working bytes that ClassMaker4 tells.
 */
public final class RealMachineTest {
    private static final int PROGRAMS = 4;

    private static final class Ends extends RuntimeException {
        private static final long serialVersionUID = 1L;
        final int abend;

        Ends(int abend) {
            this.abend = abend;
        }
    }

    private static final class Loader extends ClassLoader {
        Loader() {
            super(RealMachineTest.class.getClassLoader());
        }

        Class<?> define(String name, byte[] bytes) {
            return defineClass(name, bytes, 0, bytes.length);
        }
    }

    /** One unit, as the Java machine has it. */
    private static final class Unit implements K.Host {
        final ClassMaker4 x;
        final int[] rowsNow;
        final int[] type = new int[PROGRAMS + 1];
        final int[] rows = new int[PROGRAMS + 1];
        final Class<?>[] started = new Class<?>[PROGRAMS + 1];
        final List<Integer> marks = new ArrayList<>();
        int classes = 0;
        int current;
        int depth;
        int stoppedWith;

        Unit(ClassMaker4 x, int[] rowsNow) {
            this.x = x;
            this.rowsNow = rowsNow;
        }

        void made(int program) {
            classes++;
            type[program] = classes;
            rows[program] = rowsNow[program];
            started[program] = null;
        }

        byte[] bytesOf(int number) {
            List<Byte> bytes = new ArrayList<>();
            try {
                while (bytes.size() < 5000) {
                    bytes.add(x.octet(number, bytes.size()));
                }
            } catch (ArrayIndexOutOfBoundsException e) {
                // behind the last byte
            }
            byte[] file = new byte[bytes.size()];
            for (int i = 0; i < file.length; i++) {
                file[i] = bytes.get(i);
            }
            return file;
        }

        /** Answers by what it abends; -1 when it stops. */
        int runFirst(int program) {
            marks.clear();
            depth = 0;
            stoppedWith = -1;
            current = -1;
            try {
                enter(program);
                current = -1;
                return 0;
            } catch (Ends e) {
                return e.abend;
            }
        }

        void enter(int program) {
            current = program;
            if (started[program] == null) {
                String name = "P" + program;
                Loader loader = new Loader();
                loader.define(name, bytesOf(type[program]));
                try {
                    started[program] = Class.forName(name, true, loader);
                } catch (ExceptionInInitializerError e) {
                    throw new Ends(5);
                } catch (ClassNotFoundException e) {
                    throw new IllegalStateException(e);
                }
            }
            int row = 1;
            while (row <= rows[program]) {
                row = member(started[program], (row - 1) / 10, row);
            }
        }

        int member(Class<?> of, int number, int row) {
            try {
                Method m = of.getDeclaredMethod("m" + number, int.class);
                m.setAccessible(true);
                return (int) m.invoke(null, row);
            } catch (InvocationTargetException e) {
                Throwable cause = e.getCause();
                if (cause instanceof Ends) {
                    throw (Ends) cause;
                }
                if (cause instanceof ArithmeticException) {
                    throw new Ends(1);
                }
                if (cause instanceof ArrayIndexOutOfBoundsException) {
                    throw new Ends(2);
                }
                throw new IllegalStateException(cause);
            } catch (ReflectiveOperationException e) {
                throw new IllegalStateException(e);
            }
        }

        @Override
        public void called(int program) {
            int caller = current;
            if (depth == 10) {
                throw new Ends(3);
            }
            if (program > PROGRAMS) {
                throw new Ends(6);
            }
            if (type[program] == 0) {
                made(program);
            }
            depth++;
            enter(program);
            depth--;
            current = caller;
        }

        @Override
        public void marked(int value) {
            if (marks.size() < 100) {
                marks.add(value);
            }
        }

        @Override
        public void stopped(int value) {
            stoppedWith = value;
            throw new Ends(-1);
        }

        @Override
        public void tooBig() {
            throw new Ends(4);
        }

        byte[] working(int program) {
            try {
                Field w = started[program].getDeclaredField("W");
                w.setAccessible(true);
                return (byte[]) w.get(null);
            } catch (ReflectiveOperationException e) {
                throw new IllegalStateException(e);
            }
        }
    }

    private static final int[] seen = new int[8];
    private static int stops = 0;
    private static int plainEnds = 0;

    public static void main(String[] args) {
        for (int seed = 0; seed < 3000; seed++) {
            scenario(seed);
        }
        for (int by = 1; by <= 7; by++) {
            Check.due("abends by " + by + " came up", seen[by] > 0, true);
        }
        Check.due("stops came up", stops > 0, true);
        Check.due("plain ends came up", plainEnds > 0, true);
        Check.end();
    }

    private static void addRow(ClassMaker4 x, Random random, int program, int size, int[] rowsNow) {
        int pick = random.nextInt(100);
        int op = pick < 70 ? random.nextInt(9) : pick < 74 ? 9 : pick < 86 ? 11 : pick < 96 ? 10 : pick < 97 ? 12 : 13;
        int a = op <= 8 || op == 13 ? random.nextInt(size)
            : op == 10 ? 1 + random.nextInt(random.nextInt(10) == 0 ? 12 : PROGRAMS) : random.nextInt(128);
        int b = op == 0 || op == 13 ? small(random) : op <= 7 ? random.nextInt(size)
            : Math.max(1, Math.min(61, rowsNow[program] - 2 + random.nextInt(12)));
        Check.due("code", x.code(program, op, a, b) == rowsNow[program] + 1 || rowsNow[program] == 60, true);
        rowsNow[program] = Math.min(60, rowsNow[program] + 1);
    }

    private static int small(Random random) {
        return random.nextBoolean() ? random.nextInt(8) : random.nextInt(256) - 128;
    }

    private static void scenario(int seed) {
        Random random = new Random(seed);
        ClassMaker4 x = new ClassMaker4();
        x.unit();
        int[] sizes = new int[PROGRAMS + 1];
        int[] rowsNow = new int[PROGRAMS + 1];
        for (int p = 1; p <= PROGRAMS; p++) {
            sizes[p] = 2 + random.nextInt(random.nextBoolean() ? 4 : 99);
            x.program(sizes[p], random.nextInt(25) == 0);
        }
        Unit unit = new Unit(x, rowsNow);
        K.host = unit;
        for (int turn = 0; turn < 8; turn++) {
            int p = 1 + random.nextInt(PROGRAMS);
            int more = random.nextInt(14);
            for (int i = 0; i < more; i++) {
                addRow(x, random, p, sizes[p], rowsNow);
            }
            if (unit.type[p] == 0 || unit.rows[p] != rowsNow[p]) {
                unit.made(p);
            }
            Check.due("make", x.make(1, p), unit.type[p]);
            int first = random.nextBoolean() ? p : 1 + random.nextInt(PROGRAMS);
            if (random.nextInt(6) == 0) {
                Check.due("cancel", x.cancel(1, first) == 1, unit.started[first] != null);
                unit.started[first] = null;
            }
            if (unit.type[first] == 0) {
                Check.due("run without a class", x.run(1, first), -5);
            } else if (!sameRun(x, unit, first, sizes, "seed " + seed + ", turn " + turn)) {
                return;
            }
        }
    }

    /** Answers false when the unit can't be followed on. */
    private static boolean sameRun(ClassMaker4 x, Unit unit, int program, int[] sizes, String where) {
        int answer = x.run(1, program);
        int by = x.raised(1);
        seen[by]++;
        if (by == 7) {
            // the machine itself counts no steps
            return false;
        }
        int want = unit.runFirst(program);
        stops += want == -1 ? 1 : 0;
        plainEnds += want == 0 ? 1 : 0;
        Check.due(where + " run", answer, want > 0 ? 2 : 1);
        Check.due(where + " raised", by, Math.max(want, 0));
        Check.due(where + " told 0", x.told(1, 0), want == 0 ? -1 : unit.current);
        Check.due(where + " told 1", x.told(1, 1), unit.stoppedWith);
        Check.due(where + " told 3", x.told(1, 3), unit.marks.size());
        for (int i = 0; i < unit.marks.size(); i++) {
            Check.due(where + " mark", x.mark(1, i), unit.marks.get(i));
        }
        Check.due(where + " classes", x.count(2), unit.classes);
        for (int p = 1; p <= PROGRAMS; p++) {
            if (unit.started[p] == null) {
                Check.noByteAt(x, 1, p, 0);
            } else {
                byte[] working = unit.working(p);
                Check.due(where + " size", working.length, sizes[p]);
                for (int i = 0; i < working.length; i++) {
                    Check.due(where + " byte " + i + " of " + p, x.at(1, p, i), working[i]);
                }
            }
        }
        return want != 5 && want != -1;
    }
}

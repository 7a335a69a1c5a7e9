/** Promises 1 to 16, one method for each: ordinary inputs, the edges, wrong inputs. */
public final class PromisesTest {
    private static final int[] FAR = {Integer.MIN_VALUE, -1, 0, 1000, Integer.MAX_VALUE};

    public static void main(String[] args) {
        newObject();
        program();
        code();
        codeOperands();
        unit();
        make();
        makeAtFortyClasses();
        run();
        runArithmetic();
        runJumps();
        runSteps();
        runCalls();
        runDepth();
        runStops();
        runStartsThatFail();
        at();
        raised();
        told();
        mark();
        octet();
        shares();
        cancel();
        plain();
        state();
        count();
        Check.end();
    }

    /** One program of a size, one unit. */
    private static ClassMaker4 one(int size) {
        ClassMaker4 x = new ClassMaker4();
        Check.due("program", x.program(size, false), 1);
        Check.due("unit", x.unit(), 1);
        return x;
    }

    private static int runNew(ClassMaker4 x, int unit, int program) {
        x.make(unit, program);
        return x.run(unit, program);
    }

    private static void newObject() {
        ClassMaker4 x = new ClassMaker4();
        for (int what = 0; what <= 3; what++) {
            Check.due("new count(" + what + ")", x.count(what), 0);
        }
        Check.due("new code", x.code(1, 0, 0, 0), -2);
        Check.due("new make", x.make(1, 1), -2);
        Check.due("new run", x.run(1, 1), -2);
        Check.due("new raised", x.raised(1), -2);
        Check.due("new told", x.told(1, 2), -2);
        Check.due("new mark", x.mark(1, 0), -1);
        Check.due("new shares", x.shares(1, 1), false);
        Check.due("new cancel", x.cancel(1, 1), -2);
        Check.due("new state", x.state(1), -2);
        Check.noByteAt(x, 1, 1, 0);
        Check.noOctet(x, 1, 0);
        ClassMaker4 other = new ClassMaker4();
        x.program(1, false);
        Check.due("another object's programs", other.count(0), 0);
    }

    private static void program() {
        ClassMaker4 x = new ClassMaker4();
        int[] wrong = {Integer.MIN_VALUE, -1, 0, 101, Integer.MAX_VALUE};
        for (int size : wrong) {
            Check.due("program(" + size + ")", x.program(size, false), -4);
        }
        Check.due("program(1)", x.program(1, true), 1);
        Check.due("program(100)", x.program(100, false), 2);
        for (int n = 3; n <= 12; n++) {
            Check.due("program " + n, x.program(5, n % 2 == 0), n);
        }
        Check.due("a 13th program", x.program(5, false), -1);
        Check.due("a 13th program of no size", x.program(0, false), -4);
        Check.due("programs", x.count(0), 12);
        x.unit();
        x.code(2, 0, 99, 7);
        Check.due("run of 100 bytes", runNew(x, 1, 2), 1);
        Check.due("the 100th byte", x.at(1, 2, 99), 7);
        Check.noByteAt(x, 1, 2, 100);
    }

    private static void code() {
        ClassMaker4 x = one(2);
        Check.due("code of no program", x.code(2, 0, 0, 0), -2);
        for (int n : FAR) {
            Check.due("code of program " + n, x.code(n, 99, 0, 0), -2);
        }
        for (int op : new int[] {Integer.MIN_VALUE, -1, 14, Integer.MAX_VALUE}) {
            Check.due("code op " + op, x.code(1, op, 0, 0), -4);
        }
        for (int row = 1; row <= 60; row++) {
            Check.due("row " + row, x.code(1, 11, row, 0), row);
        }
        Check.due("row 61", x.code(1, 11, 1, 0), -1);
        Check.due("row 61 that is not so", x.code(1, 11, 128, 0), -4);
        Check.due("run of 60 rows", runNew(x, 1, 1), 1);
        Check.due("steps", x.told(1, 2), 60);
        Check.due("the last mark", x.mark(1, 59), 60);
    }

    private static void codeOperands() {
        ClassMaker4 x = one(3);
        int rows = 0;
        for (int op = 0; op <= 13; op++) {
            boolean aIsByte = op <= 8 || op == 13;
            int lowA = aIsByte ? 0 : op == 10 ? 1 : op == 9 ? Integer.MIN_VALUE : 0;
            int highA = aIsByte ? 2 : op == 10 ? 12 : op == 9 ? Integer.MAX_VALUE : 127;
            int lowB = Integer.MIN_VALUE;
            int highB = Integer.MAX_VALUE;
            if (op == 0 || op == 13) {
                lowB = -128;
                highB = 127;
            } else if (op <= 7) {
                lowB = 0;
                highB = 2;
            } else if (op <= 9) {
                lowB = 1;
                highB = 61;
            }
            Check.due("lowest of op " + op, x.code(1, op, lowA, lowB), rows + 1);
            Check.due("highest of op " + op, x.code(1, op, highA, highB), rows + 2);
            rows += 2;
            if (lowA != Integer.MIN_VALUE) {
                Check.due("a too low, op " + op, x.code(1, op, lowA - 1, lowB), -4);
                Check.due("a too high, op " + op, x.code(1, op, highA + 1, lowB), -4);
                Check.due("a far, op " + op, x.code(1, op, Integer.MAX_VALUE, lowB), -4);
            }
            if (lowB != Integer.MIN_VALUE) {
                Check.due("b too low, op " + op, x.code(1, op, lowA, lowB - 1), -4);
                Check.due("b too high, op " + op, x.code(1, op, lowA, highB + 1), -4);
                Check.due("b far, op " + op, x.code(1, op, lowA, Integer.MIN_VALUE), -4);
            }
        }
    }

    private static void unit() {
        ClassMaker4 x = new ClassMaker4();
        for (int n = 1; n <= 8; n++) {
            Check.due("unit " + n, x.unit(), n);
            Check.due("units", x.count(1), n);
        }
        Check.due("a 9th unit", x.unit(), -1);
        Check.due("units", x.count(1), 8);
        Check.due("raised(8)", x.raised(8), 0);
        Check.due("raised(9)", x.raised(9), -2);
    }

    private static void make() {
        ClassMaker4 x = one(2);
        for (int n : FAR) {
            Check.due("make(1, " + n + ")", x.make(1, n), -2);
            Check.due("make(" + n + ", 1)", x.make(n, 1), -2);
        }
        Check.due("make", x.make(1, 1), 1);
        Check.due("make again", x.make(1, 1), 1);
        x.code(1, 0, 0, 9);
        Check.due("make with a row more", x.make(1, 1), 2);
        Check.due("run", x.run(1, 1), 1);
        Check.due("make, started", x.make(1, 1), 2);
        Check.due("its bytes stay", x.at(1, 1, 0), 9);
        x.unit();
        Check.due("make in another unit", x.make(2, 1), 3);
        x.code(1, 11, 1, 0);
        Check.due("the first one's state", x.state(1), 3);
        Check.due("make drops", x.make(1, 1), 4);
        Check.due("state of the dropped one", x.state(2), 3);
        Check.due("state of the other unit's", x.state(3), 0);
        Check.noByteAt(x, 1, 1, 0);
        x.code(1, 12, 5, 0);
        Check.due("make", x.make(1, 1), 5);
        Check.due("run that stops", x.run(1, 1), 1);
        Check.due("make when it has ended", x.make(1, 1), -5);
        Check.due("make of no program when it has ended", x.make(1, 2), -2);
        Check.due("make in the other", x.make(2, 1), 6);
    }

    private static void makeAtFortyClasses() {
        ClassMaker4 x = new ClassMaker4();
        int made = 0;
        for (int p = 1; p <= 5; p++) {
            x.program(1, false);
        }
        x.code(1, 10, 6, 0);
        x.program(1, false);
        for (int u = 1; u <= 8; u++) {
            x.unit();
            for (int p = 1; p <= 5; p++) {
                made++;
                Check.due("class " + made, x.make(u, p), made);
            }
        }
        Check.due("a 41st class", x.make(8, 6), -1);
        Check.due("the latest one", x.make(8, 5), 40);
        Check.due("an early one", x.make(1, 1), 1);
        Check.due("run that calls one too many", x.run(1, 1), 2);
        Check.due("raised", x.raised(1), 6);
        Check.due("told 0", x.told(1, 0), 1);
        x.code(5, 11, 1, 0);
        Check.due("a new one of program 5", x.make(8, 5), -1);
        Check.due("the old one is not dropped", x.state(40), 0);
        Check.due("and runs", x.run(8, 5), 1);
        Check.due("as it was", x.told(8, 3), 0);
        Check.due("classes", x.count(2), 40);
    }

    private static void run() {
        ClassMaker4 x = one(2);
        for (int n : FAR) {
            Check.due("run(1, " + n + ")", x.run(1, n), -2);
            Check.due("run(" + n + ", 1)", x.run(n, 1), -2);
        }
        Check.due("run without a class", x.run(1, 1), -5);
        Check.due("told, without a run", x.told(1, 2), -1);
        Check.due("run without rows", runNew(x, 1, 1), 1);
        Check.due("it is started", x.state(1), 1);
        Check.due("its first byte", x.at(1, 1, 0), 0);
        x.code(1, 0, 1, 1);
        x.code(1, 2, 0, 1);
        Check.due("run of the class as it was", x.run(1, 1), 1);
        Check.due("no steps", x.told(1, 2), 0);
        Check.due("run of the new one", runNew(x, 1, 1), 1);
        Check.due("run again", x.run(1, 1), 1);
        Check.due("the bytes stay between runs", x.at(1, 1, 0), 2);
        x.unit();
        Check.due("run in a unit without the class", x.run(2, 1), -5);
        Check.due("run in another unit", runNew(x, 2, 1), 1);
        Check.due("with bytes of its own", x.at(2, 1, 0), 1);
        Check.due("and the first one's", x.at(1, 1, 0), 2);
    }

    /** x op y in the rows, against the machine's own bytes. */
    private static void runArithmetic() {
        int[] values = {-128, -127, -7, -1, 0, 1, 2, 7, 100, 127};
        for (int op = 1; op <= 6; op++) {
            for (int v : values) {
                for (int w : values) {
                    ClassMaker4 x = one(3);
                    x.code(1, 0, 0, v);
                    x.code(1, 0, 2, w);
                    x.code(1, op, 0, 2);
                    String call = v + " op " + op + " " + w;
                    if (op >= 5 && w == 0) {
                        Check.due(call, runNew(x, 1, 1), 2);
                        Check.due(call + " raised", x.raised(1), 1);
                        Check.due(call + " told 0", x.told(1, 0), 1);
                        Check.due(call + " leaves x", x.at(1, 1, 0), v);
                    } else {
                        Check.due(call, runNew(x, 1, 1), 1);
                        int want = op == 1 ? w : op == 2 ? v + w : op == 3 ? v - w : op == 4 ? v * w : op == 5 ? v / w : v % w;
                        Check.due(call, x.at(1, 1, 0), (byte) want);
                    }
                    Check.due(call + " leaves y", x.at(1, 1, 2), w);
                    Check.due(call + " leaves the other", x.at(1, 1, 1), 0);
                }
            }
        }
        for (int number = -1; number <= 3; number++) {
            ClassMaker4 x = one(3);
            x.code(1, 0, 0, number);
            x.code(1, 0, 1, 55);
            x.code(1, 7, 0, 1);
            boolean there = number >= 0 && number < 3;
            Check.due("op 7 of " + number, runNew(x, 1, 1), there ? 1 : 2);
            Check.due("op 7 raised", x.raised(1), there ? 0 : 2);
            if (there) {
                Check.due("op 7 sets", x.at(1, 1, number), 55);
            }
        }
        for (int v = -128; v <= 127; v += 51) {
            for (int b : new int[] {-128, v - 1, v, v + 1, 127}) {
                ClassMaker4 x = one(1);
                x.code(1, 0, 0, v);
                if (x.code(1, 13, 0, b) < 0) {
                    continue;
                }
                Check.due("size " + v + ", " + b, runNew(x, 1, 1), v > b ? 2 : 1);
                Check.due("size raised", x.raised(1), v > b ? 4 : 0);
            }
        }
    }

    private static void runJumps() {
        for (int v = -1; v <= 1; v++) {
            ClassMaker4 x = one(1);
            x.code(1, 0, 0, v);
            x.code(1, 8, 0, 4);
            x.code(1, 11, 1, 0);
            x.code(1, 9, 77, 6);
            x.code(1, 11, 2, 0);
            x.code(1, 11, 3, 0);
            Check.due("run with jumps", runNew(x, 1, 1), 1);
            Check.due("marks", x.told(1, 3), v == 0 ? 1 : 2);
            Check.due("first mark", x.mark(1, 0), v == 0 ? 3 : 1);
            Check.due("steps", x.told(1, 2), v == 0 ? 4 : 5);
        }
        ClassMaker4 x = one(1);
        x.code(1, 9, 0, 3);
        x.code(1, 11, 1, 0);
        Check.due("a jump beyond the last row", runNew(x, 1, 1), 1);
        Check.due("ends it", x.told(1, 2), 1);
        x.code(1, 11, 9, 0);
        Check.due("a class keeps its rows", x.run(1, 1), 1);
        Check.due("and its end", x.told(1, 3), 0);
        Check.due("the new class has the row", runNew(x, 1, 1), 1);
        Check.due("and goes there", x.mark(1, 0), 9);
        Check.due("alone", x.told(1, 3), 1);
    }

    private static void runSteps() {
        // 2 rows ahead, then 4 rows each time round, but for the last one, which has 3
        ClassMaker4 x = one(3);
        x.code(1, 0, 0, -128);
        x.code(1, 0, 1, 1);
        x.code(1, 3, 0, 1);
        x.code(1, 11, 4, 0);
        x.code(1, 8, 0, 7);
        x.code(1, 9, 0, 3);
        Check.due("128 times round", runNew(x, 1, 1), 1);
        Check.due("steps", x.told(1, 2), 2 + 128 * 4 - 1);
        Check.due("marks at most 100", x.told(1, 3), 100);
        Check.due("the 100th", x.mark(1, 99), 4);
        Check.due("no 101st", x.mark(1, 100), -1);
        endless();
        thousand(0, 1, 0, 1000);
        thousand(1, 2, 7, 1000);
    }

    private static void endless() {
        ClassMaker4 x = one(1);
        x.program(1, false);
        x.code(1, 9, 0, 1);
        x.code(2, 10, 1, 0);
        x.code(2, 11, 1, 0);
        Check.due("endless", runNew(x, 1, 1), 2);
        Check.due("raised", x.raised(1), 7);
        Check.due("steps", x.told(1, 2), 1000);
        Check.due("told 0", x.told(1, 0), 1);
        Check.due("endless within a call", runNew(x, 1, 2), 2);
        Check.due("raised", x.raised(1), 7);
        Check.due("steps", x.told(1, 2), 1000);
        Check.due("told 0", x.told(1, 0), 1);
        Check.due("marks", x.told(1, 3), 0);
    }

    /** A run that takes just 1000 steps, with calls, and more rows on top. */
    private static void thousand(int more, int answer, int raised, int steps) {
        ClassMaker4 x = new ClassMaker4();
        x.unit();
        x.program(1, false);
        x.program(1, false);
        // 16 calls of 60 rows are 976 steps; 24 more marks
        for (int i = 0; i < 60; i++) {
            x.code(2, 11, 1, 0);
        }
        for (int i = 0; i < 16; i++) {
            x.code(1, 10, 2, 0);
        }
        for (int i = 0; i < 24 + more; i++) {
            x.code(1, 11, 2, 0);
        }
        Check.due("run of " + (1000 + more) + " rows", runNew(x, 1, 1), answer);
        Check.due("raised", x.raised(1), raised);
        Check.due("steps", x.told(1, 2), steps);
        Check.due("program", x.told(1, 0), more == 0 ? -1 : 1);
        Check.due("the unit goes on", x.run(1, 2), 1);
    }

    private static void runCalls() {
        ClassMaker4 x = one(1);
        x.program(2, false);
        x.code(1, 10, 2, 0);
        x.code(1, 10, 2, 0);
        x.code(1, 10, 3, 0);
        x.code(1, 11, 1, 0);
        x.code(2, 0, 0, 1);
        x.code(2, 2, 1, 0);
        Check.due("run", runNew(x, 1, 1), 2);
        Check.due("a call of a program that isn't there", x.raised(1), 6);
        Check.due("by the calling one", x.told(1, 0), 1);
        Check.due("steps", x.told(1, 2), 7);
        Check.due("no mark", x.told(1, 3), 0);
        Check.due("the called one was made", x.count(2), 2);
        Check.due("and started once", x.at(1, 2, 1), 2);
        x.program(1, false);
        x.code(3, 11, 33, 0);
        Check.due("run with the third one", x.run(1, 1), 1);
        Check.due("made", x.count(2), 3);
        Check.due("marks", x.mark(1, 0) * 1000 + x.mark(1, 1), 33001);
        x.code(2, 5, 0, 1);
        x.code(2, 0, 1, 0);
        Check.due("the called class as it was", x.run(1, 1), 1);
        Check.due("its bytes", x.at(1, 2, 1), 6);
        Check.due("a new class", x.make(1, 2), 4);
        x.code(2, 6, 0, 1);
        Check.due("a new class", x.make(1, 2), 5);
        Check.due("run that abends within", x.run(1, 1), 2);
        Check.due("by division", x.raised(1), 1);
        Check.due("in the called one", x.told(1, 0), 2);
        Check.due("told 1", x.told(1, 1), -1);
        Check.due("steps", x.told(1, 2), 6);
        Check.due("the unit goes on", x.run(1, 3), 1);
        Check.due("raised", x.raised(1), 0);
    }

    private static void runDepth() {
        for (int last = 10; last <= 12; last++) {
            ClassMaker4 x = new ClassMaker4();
            x.unit();
            for (int p = 1; p <= last; p++) {
                x.program(1, false);
                x.code(p, 11, p, 0);
                if (p < last) {
                    x.code(p, 10, p + 1, 0);
                    x.code(p, 11, 100 + p, 0);
                }
            }
            boolean fits = last <= 11;
            Check.due(last + " within one another", runNew(x, 1, 1), fits ? 1 : 2);
            Check.due("raised", x.raised(1), fits ? 0 : 3);
            Check.due("told 0", x.told(1, 0), fits ? -1 : 11);
            Check.due("marks", x.told(1, 3), fits ? 2 * last - 1 : 11);
            Check.due("the innermost mark", x.mark(1, Math.min(last, 11) - 1), Math.min(last, 11));
            Check.due("a mark on the way back", x.mark(1, last), fits ? 100 + last - 1 : -1);
            Check.due("classes", x.count(2), Math.min(last, 11));
        }
        ClassMaker4 x = new ClassMaker4();
        x.unit();
        for (int p = 1; p <= 11; p++) {
            x.program(1, false);
            x.code(p, 10, p + 1, 0);
        }
        Check.due("a deep call of no program", runNew(x, 1, 1), 2);
        Check.due("is looked at as deep", x.raised(1), 3);
        x.run(1, 2);
        Check.due("one less deep it is no program", x.raised(1), 6);
        Check.due("of the last one", x.told(1, 0), 11);
    }

    private static void runStops() {
        for (int with : new int[] {0, 127}) {
            ClassMaker4 x = one(1);
            x.program(1, false);
            x.code(1, 10, 2, 0);
            x.code(1, 11, 1, 0);
            x.code(2, 0, 0, 8);
            x.code(2, 12, with, 0);
            x.code(2, 11, 2, 0);
            Check.due("run that stops", runNew(x, 1, 1), 1);
            Check.due("raised", x.raised(1), 0);
            Check.due("stopped by", x.told(1, 0), 2);
            Check.due("stopped with", x.told(1, 1), with);
            Check.due("steps", x.told(1, 2), 3);
            Check.due("marks", x.told(1, 3), 0);
            Check.due("run when it has ended", x.run(1, 1), -5);
            Check.due("the told stays", x.told(1, 2), 3);
            Check.due("make when it has ended", x.make(1, 2), -5);
            Check.due("cancel when it has ended", x.cancel(1, 2), -5);
            Check.due("its bytes are there", x.at(1, 2, 0), 8);
            Check.due("states", x.state(1) * 10 + x.state(2), 44);
            x.unit();
            Check.due("another unit runs", runNew(x, 2, 2), 1);
        }
    }

    private static void runStartsThatFail() {
        ClassMaker4 x = one(1);
        x.program(1, true);
        x.code(1, 11, 1, 0);
        x.code(1, 10, 2, 0);
        x.code(1, 11, 2, 0);
        x.code(2, 11, 3, 0);
        Check.due("run that calls it", runNew(x, 1, 1), 2);
        Check.due("raised", x.raised(1), 5);
        Check.due("told 0", x.told(1, 0), 2);
        Check.due("told 1", x.told(1, 1), -1);
        Check.due("steps", x.told(1, 2), 2);
        Check.due("marks", x.told(1, 3), 1);
        Check.due("states", x.state(1) * 10 + x.state(2), 42);
        Check.noByteAt(x, 1, 2, 0);
        Check.due("the other's bytes", x.at(1, 1, 0), 0);
        Check.due("run", x.run(1, 1), -5);
        Check.due("make", x.make(1, 1), -5);
        Check.due("cancel", x.cancel(1, 2), -5);
        x.unit();
        Check.due("make", x.make(2, 2), 3);
        Check.due("not started yet", x.state(3), 0);
        Check.due("run it straight", x.run(2, 2), 2);
        Check.due("raised", x.raised(2), 5);
        Check.due("told 0", x.told(2, 0), 2);
        Check.due("steps", x.told(2, 2), 0);
        x.program(1, true);
        x.unit();
        Check.due("also without rows", runNew(x, 3, 3), 2);
        Check.due("raised", x.raised(3), 5);
    }

    private static void at() {
        ClassMaker4 x = one(2);
        Check.noByteAt(x, 1, 1, 0);
        x.code(1, 0, 1, -128);
        x.make(1, 1);
        Check.noByteAt(x, 1, 1, 0);
        x.run(1, 1);
        Check.due("at 0", x.at(1, 1, 0), 0);
        Check.due("at 1", x.at(1, 1, 1), -128);
        for (int i : new int[] {Integer.MIN_VALUE, -1, 2, Integer.MAX_VALUE}) {
            Check.noByteAt(x, 1, 1, i);
        }
        for (int n : FAR) {
            Check.noByteAt(x, n, 1, 0);
            Check.noByteAt(x, 1, n, 0);
        }
        x.cancel(1, 1);
        Check.noByteAt(x, 1, 1, 0);
        x.run(1, 1);
        Check.due("at 1 again", x.at(1, 1, 1), -128);
    }

    private static void raised() {
        ClassMaker4 x = one(1);
        Check.due("before a run", x.raised(1), 0);
        x.code(1, 5, 0, 0);
        runNew(x, 1, 1);
        Check.due("by division", x.raised(1), 1);
        x.program(1, false);
        runNew(x, 1, 2);
        Check.due("a later run", x.raised(1), 0);
        x.run(1, 1);
        x.run(1, 3);
        Check.due("no run of a program that isn't there", x.raised(1), 1);
        for (int n : FAR) {
            Check.due("raised(" + n + ")", x.raised(n), -2);
        }
        x.unit();
        Check.due("another unit", x.raised(2), 0);
    }

    private static void told() {
        ClassMaker4 x = one(1);
        for (int what = -1; what <= 4; what++) {
            Check.due("before a run, told " + what, x.told(1, what), -1);
            Check.due("no unit, told " + what, x.told(2, what), -2);
        }
        x.code(1, 11, 0, 0);
        runNew(x, 1, 1);
        Check.due("nobody abended", x.told(1, 0), -1);
        Check.due("nor stopped", x.told(1, 1), -1);
        Check.due("steps", x.told(1, 2), 1);
        Check.due("marks", x.told(1, 3), 1);
        for (int what : new int[] {Integer.MIN_VALUE, -1, 4, Integer.MAX_VALUE}) {
            Check.due("told " + what, x.told(1, what), -1);
        }
        for (int n : FAR) {
            Check.due("told of unit " + n, x.told(n, 2), -2);
        }
        x.code(1, 13, 0, -1);
        runNew(x, 1, 1);
        Check.due("who abended", x.told(1, 0), 1);
        x.program(1, false);
        runNew(x, 1, 2);
        Check.due("nobody did in a later run", x.told(1, 0), -1);
        Check.due("no steps", x.told(1, 2), 0);
        Check.due("no marks", x.told(1, 3), 0);
    }

    private static void mark() {
        ClassMaker4 x = one(1);
        Check.due("before a run", x.mark(1, 0), -1);
        x.code(1, 11, 127, 0);
        x.code(1, 11, 0, 0);
        runNew(x, 1, 1);
        Check.due("first", x.mark(1, 0), 127);
        Check.due("second", x.mark(1, 1), 0);
        for (int i : new int[] {Integer.MIN_VALUE, -1, 2, 100, Integer.MAX_VALUE}) {
            Check.due("mark " + i, x.mark(1, i), -1);
        }
        for (int n : FAR) {
            Check.due("mark of unit " + n, x.mark(n, 0), -1);
        }
        x.program(1, false);
        runNew(x, 1, 2);
        Check.due("a later run", x.mark(1, 0), -1);
    }

    private static void octet() {
        ClassMaker4 x = one(7);
        x.make(1, 1);
        int length = x.count(3);
        Check.due("its length", length, 10 + 162 + 20 + 26 + 8 + 2);
        Check.due("first", x.octet(1, 0), (byte) 0xCA);
        Check.due("last", x.octet(1, length - 1), 0);
        for (int i : new int[] {Integer.MIN_VALUE, -1, length, Integer.MAX_VALUE}) {
            Check.noOctet(x, 1, i);
        }
        for (int n : FAR) {
            Check.noOctet(x, n, 0);
        }
        Check.noOctet(x, 2, 0);
    }

    private static void shares() {
        ClassMaker4 x = one(1);
        x.unit();
        Check.due("without classes", x.shares(1, 1), false);
        x.make(1, 1);
        Check.due("with itself", x.shares(1, 1), true);
        Check.due("with one that has none", x.shares(1, 2), false);
        x.make(2, 1);
        Check.due("the same program is another class", x.shares(1, 2), false);
        Check.due("and so", x.shares(2, 1), false);
        Check.due("the other with itself", x.shares(2, 2), true);
        for (int n : FAR) {
            Check.due("shares(" + n + ")", x.shares(n, n) || x.shares(1, n) || x.shares(n, 1), false);
        }
        x.code(1, 12, 1, 0);
        runNew(x, 1, 1);
        Check.due("also when it has ended", x.shares(1, 1), true);
    }

    private static void cancel() {
        ClassMaker4 x = one(1);
        for (int n : FAR) {
            Check.due("cancel(1, " + n + ")", x.cancel(1, n), -2);
            Check.due("cancel(" + n + ", 1)", x.cancel(n, 1), -2);
        }
        Check.due("without a class", x.cancel(1, 1), 0);
        x.code(1, 13, 0, 0);
        x.code(1, 0, 0, 3);
        x.make(1, 1);
        Check.due("not started", x.cancel(1, 1), 0);
        Check.due("run", x.run(1, 1), 1);
        Check.due("run again", x.run(1, 1), 2);
        Check.due("its byte", x.at(1, 1, 0), 3);
        Check.due("cancel", x.cancel(1, 1), 1);
        Check.due("state", x.state(1), 0);
        Check.noByteAt(x, 1, 1, 0);
        Check.due("again", x.cancel(1, 1), 0);
        Check.due("make is the same one", x.make(1, 1), 1);
        Check.due("run from 0 on", x.run(1, 1), 1);
        x.unit();
        runNew(x, 2, 1);
        x.cancel(2, 1);
        Check.due("another unit's is its own", x.at(1, 1, 0), 3);
    }

    private static void plain() {
        ClassMaker4 x = new ClassMaker4();
        long[] values = {Long.MIN_VALUE, -1001, -7, -1, 0, 1, 2, 999, 1000, 1001, Long.MAX_VALUE};
        for (long a : values) {
            for (long b : values) {
                String call = "plain of " + a + ", " + b;
                Check.due(call, x.plain(0, a, b), a + b);
                Check.due(call, x.plain(1, a, b), a - b);
                Check.due(call, x.plain(2, a, b), a * b);
                if (b == 0) {
                    Check.plainThrows(x, 3, a, b, ArithmeticException.class);
                    Check.plainThrows(x, 4, a, b, ArithmeticException.class);
                } else {
                    Check.due(call, x.plain(3, a, b), a / b);
                    Check.due(call, x.plain(4, a, b), a % b);
                }
                if (a < 0) {
                    Check.plainThrows(x, 5, a, b, NegativeArraySizeException.class);
                } else {
                    Check.due(call, x.plain(5, a, b), Math.min(a, 1000));
                }
                for (int op : new int[] {Integer.MIN_VALUE, -1, 6, Integer.MAX_VALUE}) {
                    Check.due(call, x.plain(op, a, b), 0);
                }
            }
        }
    }

    private static void state() {
        ClassMaker4 x = one(1);
        x.make(1, 1);
        for (int n : FAR) {
            Check.due("state(" + n + ")", x.state(n), -2);
        }
        Check.due("state(2)", x.state(2), -2);
        Check.due("not started", x.state(1), 0);
        x.run(1, 1);
        Check.due("started", x.state(1), 1);
        x.cancel(1, 1);
        Check.due("cancelled", x.state(1), 0);
        x.run(1, 1);
        x.code(1, 11, 1, 0);
        x.make(1, 1);
        Check.due("dropped", x.state(1), 3);
        Check.due("the new one", x.state(2), 0);
        x.program(1, true);
        x.make(1, 2);
        x.run(1, 2);
        Check.due("dropped, then ended", x.state(1), 4);
        Check.due("never started, ended", x.state(2), 4);
        Check.due("its start failed", x.state(3), 2);
    }

    private static void count() {
        ClassMaker4 x = one(1);
        Check.due("without a class", x.count(3), 0);
        x.program(1, true);
        Check.due("programs", x.count(0), 2);
        Check.due("units", x.count(1), 1);
        x.make(1, 2);
        Check.due("classes", x.count(2), 1);
        Check.due("bytes with a start that fails", x.count(3), 232);
        x.make(1, 1);
        Check.due("bytes without", x.count(3), 228);
        x.make(1, 2);
        Check.due("a class made ahead is not the latest", x.count(3), 228);
        x.code(1, 10, 3, 0);
        x.make(1, 1);
        Check.due("bytes with a row", x.count(3), 228 + 5 + 26 + 16 + 4 + 5 + 4);
        for (int n = 3; n <= 10; n++) {
            x.program(1, false);
        }
        x.code(3, 10, 10, 0);
        x.run(1, 1);
        Check.due("classes made by calls", x.count(2), 5);
        Check.due("bytes of P10", x.count(3), 229);
        for (int what : new int[] {Integer.MIN_VALUE, -1, 4, Integer.MAX_VALUE}) {
            Check.due("count " + what, x.count(what), -1);
        }
    }
}

/** The edges of promises 7 to 10 and 12 to 16: what is told of units, programs and classes. */
public final class TellingTest {
    private static final int NONE = ClassMaker4.NONE;

    public static void main(String[] args) {
        Sentences.runAll(TellingTest.class);
    }

    // Promise 7

    @Sentence(promise = 7, says = "A working byte of a program in a unit.")
    static void theLowestAndTheHighestByte() {
        ClassMaker4 x = Setting.sized(100);
        x.unit();
        Setting.rows(x, 1, 0, 0, -128, 0, 99, 127);
        Check.due("run", Setting.runNew(x, 1, 1), 1);
        Check.due("the first one", x.at(1, 1, 0), -128);
        Check.due("the last one", x.at(1, 1, 99), 127);
        Check.due("one between", x.at(1, 1, 50), 0);
        Check.noByteAt(x, 2, 1, 0);
    }

    @Sentence(promise = 7, says = "ArrayIndexOutOfBoundsException when there is none such")
    static void aByteTooSmallOrTooLarge() {
        for (int size : new int[] {1, 2, 100}) {
            ClassMaker4 x = Setting.sized(size);
            Setting.runNew(x, 1, 1);
            for (int i : new int[] {Integer.MIN_VALUE, -1, size, size + 1, 256, Integer.MAX_VALUE}) {
                Check.noByteAt(x, 1, 1, i);
            }
            Check.due("the last one", x.at(1, 1, size - 1), 0);
        }
    }

    @Sentence(promise = 7, says = "no such unit or program, or it isn't started")
    static void aByteOfNoUnitOrProgram() {
        ClassMaker4 x = Setting.programs(1);
        Setting.runNew(x, 1, 1);
        for (int n : new int[] {Integer.MIN_VALUE, -1, 0, 2, 8, 9, 12, 13, Integer.MAX_VALUE}) {
            Check.noByteAt(x, n, 1, 0);
            Check.noByteAt(x, 1, n, 0);
        }
    }

    @Sentence(promise = 7, says = "no such unit or program, or it isn't started")
    static void aByteOfAProgramThatIsntStarted() {
        ClassMaker4 x = Setting.programs(1);
        Check.noByteAt(x, 1, 1, 0);
        x.make(1, 1);
        Check.noByteAt(x, 1, 1, 0);
        x.run(1, 1);
        Check.due("started", x.at(1, 1, 0), 0);
        x.cancel(1, 1);
        Check.noByteAt(x, 1, 1, 0);
        x.run(1, 1);
        Setting.rows(x, 1, 9, 0, 61);
        x.make(1, 1);
        Check.noByteAt(x, 1, 1, 0);
        Check.due("program", x.program(1, true), 2);
        x.make(1, 2);
        x.run(1, 2);
        Check.noByteAt(x, 1, 2, 0);
    }

    // Promise 8

    /** Program 1 of three is run with these rows. */
    private static ClassMaker4 ran(int... rows) {
        ClassMaker4 x = Setting.programs(3);
        Setting.rows(x, 1, rows);
        Setting.runNew(x, 1, 1);
        return x;
    }

    @Sentence(promise = 8, says = "By what the latest run in a unit abended")
    static void eachNumberOfAnAbend() {
        Check.due("division", ran(5, 0, 0).raised(1), 1);
        Check.due("rest", ran(6, 0, 0).raised(1), 1);
        Check.due("no byte", ran(0, 0, 1, 7, 0, 0).raised(1), 2);
        Check.due("too deep", ran(10, 1, 0).raised(1), 3);
        Check.due("size", ran(13, 0, -1).raised(1), 4);
        Check.due("no program", ran(10, 4, 0).raised(1), 6);
        Check.due("steps", ran(9, 0, 1).raised(1), 7);
        ClassMaker4 x = Setting.programs(1);
        x.program(1, true);
        Setting.runNew(x, 1, 2);
        Check.due("start", x.raised(1), 5);
    }

    @Sentence(promise = 8, says = "0 it didn't; -2.")
    static void notAbended() {
        ClassMaker4 x = Setting.programs(3);
        x.unit();
        Check.due("before a run", x.raised(1), 0);
        Setting.runNew(x, 1, 1);
        Check.due("without rows", x.raised(1), 0);
        Setting.rows(x, 2, 5, 0, 0);
        Setting.runNew(x, 1, 2);
        Check.due("abended", x.raised(1), 1);
        Check.due("the other unit", x.raised(2), 0);
        x.run(1, 1);
        Check.due("the latest run didn't", x.raised(1), 0);
        x.run(1, 2);
        Setting.endByStop(x, 3);
        Check.due("a stop is no abend", x.raised(1), 0);
    }

    @Sentence(promise = 8, says = "0 it didn't; -2.")
    static void raisedOfNoUnit() {
        ClassMaker4 x = Setting.programs(1);
        for (int u : new int[] {Integer.MIN_VALUE, -1, 0, 2, 8, 9, Integer.MAX_VALUE}) {
            Check.due("raised(" + u + ")", x.raised(u), -2);
        }
        Check.due("raised(1)", x.raised(1), 0);
    }

    // Promise 9

    @Sentence(promise = 9, says = "what = 0 the program that abended, or stopped")
    static void whoAbendedOrStopped() {
        ClassMaker4 x = Setting.programs(12);
        Setting.rows(x, 1, 10, 12, 0);
        Setting.rows(x, 12, 5, 0, 0);
        Check.due("run", Setting.runNew(x, 1, 1), 2);
        Check.due("the last program abended", x.told(1, 0), 12);
        Setting.rows(x, 11, 13, 0, -1);
        Check.due("run", Setting.runNew(x, 1, 11), 2);
        Check.due("another one", x.told(1, 0), 11);
        Setting.rows(x, 10, 12, 5, 0);
        Check.due("run", Setting.runNew(x, 1, 10), 1);
        Check.due("one stopped", x.told(1, 0), 10);
    }

    @Sentence(promise = 9, says = "1 with what it stopped")
    static void withWhatItStopped() {
        for (int with : new int[] {0, 1, 127}) {
            ClassMaker4 x = ran(12, with, 0);
            Check.due("told", x.told(1, 1), with);
            Check.due("by whom", x.told(1, 0), 1);
        }
    }

    @Sentence(promise = 9, says = "2 its steps, 3 how many marks")
    static void noStepsNoMarksAndTheMost() {
        ClassMaker4 x = Setting.programs(2);
        Setting.runNew(x, 1, 1);
        Check.due("no steps", x.told(1, 2), 0);
        Check.due("no marks", x.told(1, 3), 0);
        Setting.rows(x, 2, 11, 1, 0, 9, 0, 1);
        Setting.runNew(x, 1, 2);
        Check.due("the most steps", x.told(1, 2), 1000);
        Check.due("the most marks", x.told(1, 3), 100);
        x.run(1, 1);
        Check.due("no steps again", x.told(1, 2), 0);
        Check.due("no marks again", x.told(1, 3), 0);
    }

    @Sentence(promise = 9, says = "NONE for others, without such, or before a run")
    static void toldOfOthers() {
        ClassMaker4 x = ran(12, 3, 0);
        for (int what : new int[] {Integer.MIN_VALUE, -2, -1, 4, 5, Integer.MAX_VALUE}) {
            Check.due("told(1, " + what + ")", x.told(1, what), NONE);
        }
    }

    @Sentence(promise = 9, says = "NONE for others, without such, or before a run")
    static void toldWithoutSuch() {
        ClassMaker4 x = ran(11, 1, 0);
        Check.due("nobody abended or stopped", x.told(1, 0), NONE);
        Check.due("with nothing", x.told(1, 1), NONE);
        ClassMaker4 y = ran(5, 0, 0);
        Check.due("who abended", y.told(1, 0), 1);
        Check.due("did not stop", y.told(1, 1), NONE);
        Setting.runNew(y, 1, 2);
        Check.due("nobody in a later run", y.told(1, 0), NONE);
    }

    @Sentence(promise = 9, says = "NONE for others, without such, or before a run")
    static void toldBeforeARun() {
        ClassMaker4 x = Setting.programs(1);
        x.make(1, 1);
        x.run(1, 2);
        for (int what = -1; what <= 4; what++) {
            Check.due("told(1, " + what + ")", x.told(1, what), NONE);
        }
        x.unit();
        x.run(1, 1);
        Check.due("behind a run", x.told(1, 2), 0);
        Check.due("in another unit", x.told(2, 2), NONE);
    }

    @Sentence(promise = 9, says = "or before a run; -2.")
    static void toldOfNoUnit() {
        ClassMaker4 x = ran(11, 1, 0);
        for (int u : new int[] {Integer.MIN_VALUE, -1, 0, 2, 8, 9, Integer.MAX_VALUE}) {
            for (int what = 0; what <= 3; what++) {
                Check.due("told(" + u + ", " + what + ")", x.told(u, what), -2);
            }
        }
    }

    // Promise 10

    @Sentence(promise = 10, says = "The i-th mark of the latest run in a unit, from 0 on")
    static void marksAreNumberedFrom0On() {
        ClassMaker4 x = ran(11, 127, 0, 11, 0, 0, 11, 64, 0);
        Check.due("mark(1, 0)", x.mark(1, 0), 127);
        Check.due("mark(1, 1)", x.mark(1, 1), 0);
        Check.due("mark(1, 2)", x.mark(1, 2), 64);
        Setting.rows(x, 2, 11, 5, 0);
        Setting.runNew(x, 1, 2);
        Check.due("of the latest run", x.mark(1, 0), 5);
        Check.due("and no other", x.mark(1, 1), NONE);
    }

    @Sentence(promise = 10, says = "from 0 on; NONE.")
    static void aMarkTooSmallOrTooLarge() {
        ClassMaker4 x = ran(11, 1, 0, 11, 2, 0);
        for (int i : new int[] {Integer.MIN_VALUE, -1, 2, 3, 99, 100, 101, Integer.MAX_VALUE}) {
            Check.due("mark(1, " + i + ")", x.mark(1, i), NONE);
        }
        ClassMaker4 full = ran(11, 7, 0, 9, 0, 1);
        Check.due("the 100th", full.mark(1, 99), 7);
        Check.due("no 101st", full.mark(1, 100), NONE);
    }

    @Sentence(promise = 10, says = "from 0 on; NONE.")
    static void noMarkWithoutARunOrAUnit() {
        ClassMaker4 x = Setting.programs(1);
        x.unit();
        Check.due("before a run", x.mark(1, 0), NONE);
        Setting.rows(x, 1, 11, 5, 0);
        Setting.runNew(x, 1, 1);
        Check.due("another unit", x.mark(2, 0), NONE);
        for (int u : new int[] {Integer.MIN_VALUE, -1, 0, 3, 8, 9, Integer.MAX_VALUE}) {
            Check.due("mark(" + u + ", 0)", x.mark(u, 0), NONE);
        }
    }

    // Promise 12

    @Sentence(promise = 12, says = "Whether two units have a class (also a dropped one) in common.")
    static void aUnitWithItself() {
        ClassMaker4 x = Setting.programs(2);
        Check.due("without a class", x.shares(1, 1), false);
        x.make(1, 1);
        Check.due("with one", x.shares(1, 1), true);
        Setting.rows(x, 1, 9, 0, 61);
        x.make(1, 1);
        Check.due("with a dropped one beside it", x.shares(1, 1), true);
        Setting.endByStop(x, 2);
        Check.due("when it has ended", x.shares(1, 1), true);
    }

    @Sentence(promise = 12, says = "Whether two units have a class (also a dropped one) in common.")
    static void twoUnitsNeverDo() {
        ClassMaker4 x = Setting.programs(12);
        Setting.runNew(x, 1, 1);
        Setting.fillClasses(x, 40);
        for (int u = 1; u <= 8; u++) {
            for (int other = 1; other <= 8; other++) {
                boolean has = u <= 5 && u == other;
                Check.due("shares(" + u + ", " + other + ")", x.shares(u, other), has);
            }
        }
    }

    @Sentence(promise = 12, says = "Whether two units have a class (also a dropped one) in common.")
    static void unitsThatArentThereHaveNone() {
        ClassMaker4 x = Setting.programs(1);
        x.make(1, 1);
        for (int u : new int[] {Integer.MIN_VALUE, -1, 0, 2, 9, Integer.MAX_VALUE}) {
            Check.due("shares(" + u + ", " + u + ")", x.shares(u, u), false);
            Check.due("shares(1, " + u + ")", x.shares(1, u), false);
            Check.due("shares(" + u + ", 1)", x.shares(u, 1), false);
        }
    }

    // Promise 13

    @Sentence(promise = 13, says = "A program's latest class in a unit is not started any more: 1")
    static void cancelOfAStartedClass() {
        ClassMaker4 x = Setting.programs(2);
        x.unit();
        Setting.rows(x, 1, 10, 2, 0);
        Setting.runNew(x, 1, 1);
        Setting.runNew(x, 2, 1);
        Check.due("one that was run", x.cancel(1, 1), 1);
        Check.due("its state", x.state(1), 0);
        Check.due("the called one's", x.state(2), 1);
        Check.due("one that was called", x.cancel(1, 2), 1);
        Check.due("its state", x.state(2), 0);
        Check.due("the other unit's", x.state(3) * 10 + x.state(4), 11);
    }

    @Sentence(promise = 13, says = "0 it wasn't; -2")
    static void cancelOfOneThatIsntStarted() {
        ClassMaker4 x = Setting.programs(1);
        Check.due("without a class", x.cancel(1, 1), 0);
        x.make(1, 1);
        Check.due("made only", x.cancel(1, 1), 0);
        x.run(1, 1);
        Check.due("started", x.cancel(1, 1), 1);
        Check.due("again", x.cancel(1, 1), 0);
        x.run(1, 1);
        Setting.rows(x, 1, 9, 0, 61);
        x.make(1, 1);
        Check.due("the latest one isn't, the dropped one was", x.cancel(1, 1), 0);
        Check.due("which stays dropped", x.state(1), 3);
    }

    @Sentence(promise = 13, says = "0 it wasn't; -2; -5 the unit has ended.")
    static void cancelOfNoUnitOrProgram() {
        ClassMaker4 x = Setting.programs(2);
        Setting.runNew(x, 1, 1);
        for (int n : new int[] {Integer.MIN_VALUE, -1, 0, 3, 9, 13, Integer.MAX_VALUE}) {
            Check.due("cancel(1, " + n + ")", x.cancel(1, n), -2);
            Check.due("cancel(" + n + ", 1)", x.cancel(n, 1), -2);
        }
        Check.due("it is started still", x.state(1), 1);
        Setting.endByStop(x, 2);
        Check.due("no program, in a unit that has ended", x.cancel(1, 3), -2);
    }

    @Sentence(promise = 13, says = "-5 the unit has ended.")
    static void cancelInAUnitThatHasEnded() {
        ClassMaker4 x = Setting.programs(3);
        x.program(1, true);
        x.unit();
        Setting.runNew(x, 1, 1);
        Setting.runNew(x, 2, 1);
        Setting.endByStop(x, 2);
        Check.due("one that is started", x.cancel(1, 1), -5);
        Check.due("the one that stopped", x.cancel(1, 2), -5);
        Check.due("one without a class", x.cancel(1, 3), -5);
        Setting.runNew(x, 2, 4);
        Check.due("behind a start that fails", x.cancel(2, 4), -5);
        Check.due("and one that is started", x.cancel(2, 1), -5);
    }

    // Promise 14

    private static final long MIN = Long.MIN_VALUE;
    private static final long MAX = Long.MAX_VALUE;

    private static void plain(int op, long a, long b, long want) {
        Check.due("plain(" + op + ", " + a + ", " + b + ")", new ClassMaker4().plain(op, a, b), want);
    }

    @Sentence(promise = 14, says = "op = 0 a + b, 1 a - b, 2 a * b (going round)")
    static void plainSumsDifferencesProductsGoRound() {
        plain(0, MAX, 1, MIN);
        plain(0, MIN, -1, MAX);
        plain(0, MIN, MIN, 0);
        plain(0, MAX, MAX, -2);
        plain(0, 2147483647L, 1, 2147483648L);
        plain(1, MIN, 1, MAX);
        plain(1, MAX, -1, MIN);
        plain(1, 0, MIN, MIN);
        plain(1, MIN, MAX, 1);
        plain(2, MAX, 2, -2);
        plain(2, MIN, -1, MIN);
        plain(2, MAX, MAX, 1);
        plain(2, 4294967296L, 4294967296L, 0);
        plain(2, 3037000500L, 3037000500L, -9223372036709301616L);
    }

    @Sentence(promise = 14, says = "3 a / b, 4 a rest b")
    static void plainQuotientsAndRestsAtTheEdges() {
        plain(3, MIN, -1, MIN);
        plain(3, MIN, 1, MIN);
        plain(3, MAX, -1, -MAX);
        plain(3, MAX, MIN, 0);
        plain(3, MIN, MAX, -1);
        plain(3, -7, 2, -3);
        plain(3, 7, -2, -3);
        plain(3, 0, 5, 0);
        plain(4, MIN, -1, 0);
        plain(4, MIN, MAX, -1);
        plain(4, MAX, MIN, MAX);
        plain(4, -7, 2, -1);
        plain(4, 7, -2, 1);
        plain(4, 0, 5, 0);
    }

    @Sentence(promise = 14, says = "5 the length of a new row of a bytes (above 1000: of 1000)")
    static void plainLengths() {
        plain(5, 0, 0, 0);
        plain(5, 1, 0, 1);
        plain(5, 999, 0, 999);
        plain(5, 1000, 0, 1000);
        plain(5, 1001, 0, 1000);
        plain(5, 4294967296L, 0, 1000);
        plain(5, 2147483648L, 0, 1000);
        plain(5, MAX, 0, 1000);
        plain(5, 7, MIN, 7);
    }

    @Sentence(promise = 14, says = "else 0.")
    static void plainOfOtherOps() {
        for (int op : new int[] {Integer.MIN_VALUE, -1, 6, 7, Integer.MAX_VALUE}) {
            plain(op, 5, 3, 0);
            plain(op, -5, 0, 0);
            plain(op, MAX, MIN, 0);
        }
    }

    @Sentence(promise = 14, says = "ArithmeticException, NegativeArraySizeException as the machine's own (a below 0).")
    static void plainThrowsForADivisorOf0() {
        ClassMaker4 x = new ClassMaker4();
        for (long a : new long[] {MIN, -1, 0, 1, MAX}) {
            Check.plainThrows(x, 3, a, 0, ArithmeticException.class);
            Check.plainThrows(x, 4, a, 0, ArithmeticException.class);
            Check.due("no divisor", x.plain(0, a, 0), a);
            Check.due("no divisor", x.plain(2, a, 0), 0);
        }
        Check.due("a divisor that is 0 in its lower half", x.plain(3, MAX, 4294967296L), 2147483647L);
    }

    @Sentence(promise = 14, says = "ArithmeticException, NegativeArraySizeException as the machine's own (a below 0).")
    static void plainThrowsForALengthBelow0() {
        ClassMaker4 x = new ClassMaker4();
        for (long a : new long[] {MIN, -4294967296L, -4294967295L, -2147483648L, -1001, -1000, -1}) {
            Check.plainThrows(x, 5, a, 0, NegativeArraySizeException.class);
            Check.plainThrows(x, 5, a, 1, NegativeArraySizeException.class);
        }
        Check.due("0 is a length", x.plain(5, 0, -1), 0);
    }

    // Promise 15

    @Sentence(promise = 15, says = "Of a class: 2 its start failed; else 4 its unit has ended")
    static void aFailedStartAheadOfAnEndedUnit() {
        ClassMaker4 x = Setting.programs(1);
        x.program(1, true);
        x.unit();
        x.make(1, 2);
        Check.due("ahead of the start", x.state(1), 0);
        x.run(1, 2);
        Check.due("its start failed, and its unit has ended", x.state(1), 2);
        x.make(2, 2);
        Check.due("in another unit", x.state(2), 0);
        Setting.rows(x, 1, 12, 0, 0);
        Setting.runNew(x, 2, 1);
        Check.due("its start never came, its unit has ended", x.state(2), 4);
    }

    @Sentence(promise = 15, says = "4 its unit has ended, 3 it is dropped, 1 it is started, 0 it isn't")
    static void anEndedUnitAheadOfAllElse() {
        ClassMaker4 x = Setting.programs(4);
        Setting.runNew(x, 1, 1);
        Setting.rows(x, 1, 9, 0, 61);
        x.make(1, 1);
        Setting.runNew(x, 1, 2);
        x.unit();
        x.make(2, 1);
        Check.due("dropped, not started, started", x.state(1) * 100 + x.state(2) * 10 + x.state(3), 301);
        Setting.endByStop(x, 3);
        for (int type : new int[] {1, 2, 3, 5}) {
            Check.due("state(" + type + ")", x.state(type), 4);
        }
        Check.due("the other unit's", x.state(4), 0);
    }

    @Sentence(promise = 15, says = "3 it is dropped, 1 it is started, 0 it isn't")
    static void droppedAheadOfStarted() {
        ClassMaker4 x = Setting.programs(1);
        x.make(1, 1);
        Check.due("it isn't", x.state(1), 0);
        Setting.rows(x, 1, 9, 0, 61);
        x.make(1, 1);
        Check.due("dropped, never started", x.state(1), 3);
        x.run(1, 1);
        Check.due("started", x.state(2), 1);
        Setting.rows(x, 1, 9, 0, 61);
        x.make(1, 1);
        Check.due("dropped, once started", x.state(2), 3);
        Check.due("both stay dropped", x.run(1, 1) * 100 + x.state(1) * 10 + x.state(2), 133);
    }

    @Sentence(promise = 15, says = "0 it isn't; -2.")
    static void stateOfNoClass() {
        ClassMaker4 x = Setting.programs(1);
        Check.due("no class at all", x.state(1), -2);
        x.make(1, 1);
        for (int type : Setting.NEVER) {
            Check.due("state(" + type + ")", x.state(type), -2);
        }
        Check.due("one beyond the last", x.state(2), -2);
        Check.due("the last", x.state(1), 0);
    }

    // Promise 16

    @Sentence(promise = 16, says = "what = 0 programs, 1 units, 2 classes, 3 bytes of the latest class")
    static void countsOfAFullObject() {
        ClassMaker4 x = Setting.programs(12);
        Setting.fillClasses(x, 40);
        x.program(1, false);
        x.unit();
        x.make(1, 1);
        Check.due("programs", x.count(0), 12);
        Check.due("units", x.count(1), 8);
        Check.due("classes", x.count(2), 40);
        Check.due("bytes", x.count(3), 228);
    }

    @Sentence(promise = 16, says = "what = 0 programs, 1 units, 2 classes, 3 bytes of the latest class")
    static void refusedCallsAreNotCounted() {
        ClassMaker4 x = Setting.programs(1);
        x.program(0, true);
        x.make(1, 2);
        x.make(2, 1);
        x.code(1, 14, 0, 0);
        Check.due("programs", x.count(0), 1);
        Check.due("units", x.count(1), 1);
        Check.due("classes", x.count(2), 0);
        x.make(1, 1);
        x.make(1, 1);
        Check.due("classes", x.count(2), 1);
        Setting.rows(x, 1, 12, 0, 0);
        Setting.runNew(x, 1, 1);
        Check.due("dropped ones and those of ended units count", x.count(2), 2);
        Check.due("units", x.count(1), 1);
    }

    @Sentence(promise = 16, says = "3 bytes of the latest class (0 without)")
    static void bytesWithoutAClass() {
        ClassMaker4 x = new ClassMaker4();
        Check.due("nothing at all", x.count(3), 0);
        x.program(1, true);
        x.unit();
        Check.due("a program and a unit", x.count(3), 0);
        x.make(1, 1);
        Check.due("without rows, with a start that fails", x.count(3), 232);
        x.program(1, false);
        x.make(1, 2);
        Check.due("without rows", x.count(3), 228);
        Setting.rows(x, 2, 9, 0, 1);
        Check.due("a row alone makes no class", x.count(3), 228);
        x.make(1, 2);
        Check.due("with one row of 3 bytes", x.count(3), 228 + 5 + 26 + 20 + 3 + 4);
    }

    @Sentence(promise = 16, says = "NONE for others.")
    static void countsOfOthers() {
        ClassMaker4 x = Setting.programs(1);
        x.make(1, 1);
        for (int what : new int[] {Integer.MIN_VALUE, -2, -1, 4, 5, Integer.MAX_VALUE}) {
            Check.due("count(" + what + ")", x.count(what), NONE);
        }
    }
}

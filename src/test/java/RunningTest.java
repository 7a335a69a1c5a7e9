/** The edges of promise 6: what rows do to bytes, where they go, calls, steps, marks, abends, ended units. */
public final class RunningTest {
    public static void main(String[] args) {
        Sentences.runAll(RunningTest.class);
    }

    // what a row does

    /** x becomes want by one row with y in another byte. */
    private static void becomes(int op, int v, int w, int want) {
        ClassMaker4 x = Setting.sized(3);
        Setting.rows(x, 1, 0, 0, v, 0, 2, w, op, 0, 2);
        String row = v + " op " + op + " " + w;
        Check.due("run of " + row, Setting.runNew(x, 1, 1), 1);
        Check.due(row, x.at(1, 1, 0), want);
        Check.due(row + ", y", x.at(1, 1, 2), w);
        Check.due(row + ", the byte between", x.at(1, 1, 1), 0);
    }

    /** The same byte is x and y. */
    private static void becomesOfItself(int op, int v, int want) {
        ClassMaker4 x = Setting.sized(1);
        Setting.rows(x, 1, 0, 0, v, op, 0, 0);
        Check.due("run of " + v + " with itself", Setting.runNew(x, 1, 1), 1);
        Check.due(v + " op " + op + " itself", x.at(1, 1, 0), want);
    }

    @Sentence(promise = 6, says = "0 x becomes b (-128 .. 127)")
    static void xBecomesTheLowestAndTheHighest() {
        for (int v : new int[] {-128, -1, 0, 1, 127}) {
            ClassMaker4 x = Setting.sized(2);
            Setting.rows(x, 1, 0, 1, v);
            Check.due("run", Setting.runNew(x, 1, 1), 1);
            Check.due("byte", x.at(1, 1, 1), v);
            Check.due("the other", x.at(1, 1, 0), 0);
        }
    }

    @Sentence(promise = 6, says = "1 x becomes y")
    static void xBecomesTheLowestAndTheHighestY() {
        becomes(1, 5, -128, -128);
        becomes(1, -5, 127, 127);
        becomes(1, 5, 0, 0);
        becomesOfItself(1, -128, -128);
    }

    @Sentence(promise = 6, says = "2 x + y, 3 x - y, 4 x * y, 5 x / y, 6 x rest y, their lowest 8 bits, to x")
    static void sumsGoRound() {
        becomes(2, 127, 0, 127);
        becomes(2, 127, 1, -128);
        becomes(2, 127, 127, -2);
        becomes(2, -128, 0, -128);
        becomes(2, -128, -1, 127);
        becomes(2, -128, -128, 0);
        becomesOfItself(2, 64, -128);
        becomesOfItself(2, -128, 0);
    }

    @Sentence(promise = 6, says = "2 x + y, 3 x - y, 4 x * y, 5 x / y, 6 x rest y, their lowest 8 bits, to x")
    static void differencesGoRound() {
        becomes(3, -128, 1, 127);
        becomes(3, 127, -1, -128);
        becomes(3, -128, 127, 1);
        becomes(3, 127, -128, -1);
        becomes(3, 0, -128, -128);
        becomesOfItself(3, -128, 0);
    }

    @Sentence(promise = 6, says = "2 x + y, 3 x - y, 4 x * y, 5 x / y, 6 x rest y, their lowest 8 bits, to x")
    static void productsGoRound() {
        becomes(4, 64, 2, -128);
        becomes(4, 16, 16, 0);
        becomes(4, 127, 127, 1);
        becomes(4, 127, -128, -128);
        becomes(4, -128, -1, -128);
        becomes(4, -128, -128, 0);
        becomes(4, 0, -128, 0);
        becomesOfItself(4, 12, -112);
    }

    @Sentence(promise = 6, says = "2 x + y, 3 x - y, 4 x * y, 5 x / y, 6 x rest y, their lowest 8 bits, to x")
    static void quotientsGoRound() {
        becomes(5, -128, -1, -128);
        becomes(5, -128, 1, -128);
        becomes(5, 127, -1, -127);
        becomes(5, 127, -128, 0);
        becomes(5, -128, 127, -1);
        becomes(5, -7, 2, -3);
        becomes(5, 7, -2, -3);
        becomes(5, 0, -128, 0);
        becomesOfItself(5, -128, 1);
    }

    @Sentence(promise = 6, says = "2 x + y, 3 x - y, 4 x * y, 5 x / y, 6 x rest y, their lowest 8 bits, to x")
    static void restsHaveTheSignOfX() {
        becomes(6, -128, -1, 0);
        becomes(6, -128, 127, -1);
        becomes(6, 127, -128, 127);
        becomes(6, -7, 2, -1);
        becomes(6, 7, -2, 1);
        becomes(6, 0, 1, 0);
        becomesOfItself(6, -128, 0);
    }

    /** Byte number n becomes 55, in a program of a size; n is held in byte 0. */
    private static ClassMaker4 numbered(int size, int n, int answer) {
        ClassMaker4 x = Setting.sized(size);
        Setting.rows(x, 1, 0, 1, 55, 0, 0, n, 7, 0, 1);
        Check.due("run of number " + n + " of " + size, Setting.runNew(x, 1, 1), answer);
        Check.due("raised", x.raised(1), answer == 1 ? 0 : 2);
        Check.due("steps", x.told(1, 2), 3);
        return x;
    }

    @Sentence(promise = 6, says = "7 working byte number x becomes y")
    static void theFirstAndTheLastNumber() {
        Check.due("number 0, x itself", numbered(2, 0, 1).at(1, 1, 0), 55);
        Check.due("number 1, y itself", numbered(2, 1, 1).at(1, 1, 1), 55);
        Check.due("number 2 of 3", numbered(3, 2, 1).at(1, 1, 2), 55);
        Check.due("number 99 of 100", numbered(100, 99, 1).at(1, 1, 99), 55);
        Check.due("number 98 of 100", numbered(100, 98, 1).at(1, 1, 99), 0);
    }

    @Sentence(promise = 6, says = "2 a working byte that isn't there")
    static void aNumberTooSmallOrTooLarge() {
        for (int n : new int[] {-128, -1, 2, 3, 127}) {
            ClassMaker4 x = numbered(2, n, 2);
            Check.due("x stays", x.at(1, 1, 0), n);
            Check.due("y stays", x.at(1, 1, 1), 55);
            Check.due("by whom", x.told(1, 0), 1);
        }
        numbered(100, 100, 2);
        numbered(100, -1, 2);
        numbered(99, 99, 2);
    }

    @Sentence(promise = 6, says = "8 if x is 0 it goes to row b")
    static void onlyForXThatIs0() {
        for (int v : new int[] {-128, -1, 0, 1, 127}) {
            ClassMaker4 x = Setting.programs(1);
            Setting.rows(x, 1, 0, 0, v, 8, 0, 4, 11, 1, 0, 11, 2, 0);
            Check.due("run", Setting.runNew(x, 1, 1), 1);
            Check.due("first mark, x " + v, x.mark(1, 0), v == 0 ? 2 : 1);
            Check.due("steps, x " + v, x.told(1, 2), v == 0 ? 3 : 4);
        }
    }

    @Sentence(promise = 6, says = "beyond the last one it ends")
    static void aJumpBeyondTheLastRowEndsIt() {
        for (int op = 8; op <= 9; op++) {
            for (int to : new int[] {3, 4, 10, 11, 60, 61}) {
                ClassMaker4 x = Setting.programs(1);
                Setting.rows(x, 1, op, 0, to, 11, 1, 0);
                Check.due("run with a jump to " + to, Setting.runNew(x, 1, 1), 1);
                Check.due("it ends", x.told(1, 2), 1);
                Check.due("raised", x.raised(1), 0);
            }
            ClassMaker4 x = Setting.programs(1);
            Setting.rows(x, 1, op, 0, 2, 11, 1, 0);
            Check.due("run with a jump to the last row", Setting.runNew(x, 1, 1), 1);
            Check.due("that row is run", x.told(1, 3), 1);
        }
    }

    @Sentence(promise = 6, says = "beyond the last one it ends")
    static void row61IsBeyondSixtyRows() {
        for (int to = 59; to <= 61; to++) {
            ClassMaker4 x = Setting.programs(1);
            Setting.rows(x, 1, 9, 0, to);
            for (int row = 2; row <= 60; row++) {
                Setting.rows(x, 1, 11, row, 0);
            }
            Check.due("run", Setting.runNew(x, 1, 1), 1);
            Check.due("steps from row " + to + " on", x.told(1, 2), 1 + 61 - to);
            Check.due("first mark", x.mark(1, 0), to == 61 ? -1 : to);
        }
    }

    @Sentence(promise = 6, says = "beyond the last one it ends")
    static void theLastOneIsTheClasssAndNotTheProgramsOfLater() {
        ClassMaker4 x = Setting.programs(2);
        Setting.rows(x, 1, 10, 2, 0, 11, 1, 0);
        Setting.rows(x, 2, 9, 0, 2);
        x.make(1, 2);
        Setting.rows(x, 2, 11, 2, 0);
        Check.due("run", Setting.runNew(x, 1, 1), 1);
        Check.due("the called one ends, the caller goes on", x.told(1, 3) * 1000 + x.mark(1, 0), 1001);
        x.make(1, 2);
        Check.due("run", x.run(1, 1), 1);
        Check.due("now there is a row", x.told(1, 3) * 1000 + x.mark(1, 0), 2002);
    }

    @Sentence(promise = 6, says = "10 calls program a")
    static void theFirstAndTheLastProgramAreCalled() {
        ClassMaker4 x = Setting.programs(12);
        Setting.rows(x, 2, 10, 1, 0, 10, 12, 0);
        Setting.rows(x, 1, 11, 1, 0);
        Setting.rows(x, 12, 11, 12, 0);
        Check.due("run", Setting.runNew(x, 1, 2), 1);
        Check.due("the first one", x.mark(1, 0), 1);
        Check.due("the last one", x.mark(1, 1), 12);
    }

    @Sentence(promise = 6, says = "11 notes MARK a (0 .. 127)")
    static void theLowestAndTheHighestMark() {
        ClassMaker4 x = Setting.programs(1);
        Setting.rows(x, 1, 11, 0, 0, 11, 127, 0);
        Check.due("run", Setting.runNew(x, 1, 1), 1);
        Check.due("lowest", x.mark(1, 0), 0);
        Check.due("highest", x.mark(1, 1), 127);
        Check.due("marks", x.told(1, 3), 2);
    }

    @Sentence(promise = 6, says = "12 stops the run unit with a (0 .. 127)")
    static void theLowestAndTheHighestStop() {
        for (int with : new int[] {0, 127}) {
            ClassMaker4 x = Setting.programs(2);
            Setting.rows(x, 1, 10, 2, 0, 11, 1, 0);
            Setting.rows(x, 2, 12, with, 0, 11, 2, 0);
            Check.due("run", Setting.runNew(x, 1, 1), 1);
            Check.due("with what", x.told(1, 1), with);
            Check.due("by whom", x.told(1, 0), 2);
            Check.due("no row behind it, in either", x.told(1, 3), 0);
        }
    }

    @Sentence(promise = 6, says = "13 is a SIZE failure if x is above b (-128 .. 127)")
    static void atTheSizeAndAboveIt() {
        int[][] cases = {
            {-128, -128, 0}, {-127, -128, 4}, {127, -128, 4}, {126, 127, 0}, {127, 127, 0}, {127, 126, 4},
            {-1, 0, 0}, {0, -1, 4}, {0, 0, 0}, {1, 0, 4}, {-128, 127, 0}, {5, 4, 4}, {5, 5, 0}, {5, 6, 0}};
        for (int[] c : cases) {
            ClassMaker4 x = Setting.sized(2);
            Setting.rows(x, 1, 0, 1, c[0], 13, 1, c[1], 11, 1, 0);
            Check.due("run with " + c[0] + " against " + c[1], Setting.runNew(x, 1, 1), c[2] == 0 ? 1 : 2);
            Check.due("raised", x.raised(1), c[2]);
            Check.due("x stays", x.at(1, 1, 1), c[0]);
            Check.due("rows behind it", x.told(1, 3), c[2] == 0 ? 1 : 0);
        }
    }

    // starts

    @Sentence(promise = 6, says = "STARTED class has working bytes: 0 at its start")
    static void allBytesAre0AtTheStart() {
        ClassMaker4 x = Setting.sized(100);
        for (int i = 0; i < 60; i++) {
            Setting.rows(x, 1, 0, 40 + i, 1);
        }
        Setting.runNew(x, 1, 1);
        Check.due("the last byte", x.at(1, 1, 99), 1);
        Check.due("cancel", x.cancel(1, 1), 1);
        x.program(1, false);
        Setting.rows(x, 2, 10, 3, 0);
        x.program(100, false);
        Check.due("another one's start", Setting.runNew(x, 1, 2), 1);
        for (int i = 0; i < 100; i++) {
            Check.due("its byte " + i, x.at(1, 3, i), 0);
        }
        x.unit();
        Check.due("in another unit", Setting.runNew(x, 2, 3), 1);
        Check.due("its last byte", x.at(2, 3, 99), 0);
    }

    @Sentence(promise = 6, says = "which comes when it is run or called and has none, ahead of its first row (also without rows)")
    static void theStartComesAlsoWithoutRows() {
        ClassMaker4 x = Setting.programs(3);
        Setting.rows(x, 3, 10, 2, 0);
        x.make(1, 1);
        x.make(1, 2);
        Check.due("made, not started", x.state(1) + x.state(2), 0);
        Check.due("run without rows", x.run(1, 1), 1);
        Check.due("it is started", x.state(1), 1);
        Check.due("its byte", x.at(1, 1, 0), 0);
        Check.due("steps", x.told(1, 2), 0);
        Check.due("called without rows", Setting.runNew(x, 1, 3), 1);
        Check.due("it is started", x.state(2), 1);
        Check.due("its byte", x.at(1, 2, 0), 0);
        Check.due("steps", x.told(1, 2), 1);
    }

    @Sentence(promise = 6, says = "which comes when it is run or called and has none")
    static void theStartComesOnceOnly() {
        ClassMaker4 x = Setting.programs(2);
        Setting.rows(x, 1, 2, 0, 0, 13, 0, 0, 10, 2, 0, 10, 2, 0);
        Setting.rows(x, 2, 8, 0, 3, 13, 0, -128, 0, 0, 1);
        Check.due("the second call of it finds its byte", Setting.runNew(x, 1, 1), 2);
        Check.due("raised", x.raised(1), 4);
        Check.due("by whom", x.told(1, 0), 2);
        Check.due("its byte stays behind an abend", x.at(1, 2, 0), 1);
        Check.due("a run finds it too", x.run(1, 2), 2);
        Check.due("cancel", x.cancel(1, 2), 1);
        Check.due("from 0 on", x.run(1, 2), 1);
    }

    @Sentence(promise = 6, says = "a cancelled class has none any more")
    static void aCancelledClassStartsFrom0Again() {
        ClassMaker4 x = Setting.programs(1);
        Setting.rows(x, 1, 13, 0, 0, 0, 0, 9);
        Check.due("run", Setting.runNew(x, 1, 1), 1);
        Check.due("cancel", x.cancel(1, 1), 1);
        Check.noByteAt(x, 1, 1, 0);
        Check.due("run from 0 on", x.run(1, 1), 1);
        Check.due("its byte", x.at(1, 1, 0), 9);
    }

    @Sentence(promise = 6, says = "A program may have a start that FAILS.")
    static void aStartThatFailsIsAheadOfTheFirstRow() {
        for (int rows = 0; rows <= 1; rows++) {
            ClassMaker4 x = Setting.programs(1);
            Check.due("program", x.program(1, true), 2);
            Setting.sameRows(x, 2, rows, 12, 5, 0);
            Check.due("made without a failure", x.make(1, 2), 1);
            Check.due("state", x.state(1), 0);
            Check.due("run with rows: " + rows, x.run(1, 2), 2);
            Check.due("raised", x.raised(1), 5);
            Check.due("by whom", x.told(1, 0), 2);
            Check.due("no step", x.told(1, 2), 0);
            Check.due("no stop", x.told(1, 1), ClassMaker4.NONE);
            Check.noByteAt(x, 1, 2, 0);
        }
    }

    // steps and marks

    @Sentence(promise = 6, says = "each row takes a step")
    static void stepsOfNoRowOneRowAndRowsThatEnd() {
        ClassMaker4 x = Setting.programs(3);
        Check.due("run", Setting.runNew(x, 1, 1), 1);
        Check.due("no row", x.told(1, 2), 0);
        Setting.rows(x, 1, 9, 0, 3, 11, 1, 0, 10, 2, 0);
        Check.due("run", Setting.runNew(x, 1, 1), 1);
        Check.due("a jump and a call of no rows", x.told(1, 2), 2);
        Setting.rows(x, 2, 0, 0, 1, 5, 0, 0);
        x.make(1, 2);
        Check.due("run", x.run(1, 1), 1);
        Check.due("with those of the called one", x.told(1, 2), 4);
        Setting.rows(x, 3, 6, 0, 0, 11, 1, 0);
        Check.due("run", Setting.runNew(x, 1, 3), 2);
        Check.due("the row that abends takes one", x.told(1, 2), 1);
        x.unit();
        Setting.rows(x, 2, 12, 1, 0);
        Check.due("run", Setting.runNew(x, 2, 2), 1);
        Check.due("the row that stops takes one", x.told(2, 2), 3);
    }

    /** Program 1 takes so many steps, 976 .. 1000: 16 calls of program 2, which has 60 rows, and rows of its own. */
    private static ClassMaker4 steps(int steps) {
        ClassMaker4 x = Setting.programs(3);
        Setting.sameRows(x, 2, 60, 1, 0, 0);
        Setting.sameRows(x, 1, 16, 10, 2, 0);
        Setting.sameRows(x, 1, steps - 976, 1, 0, 0);
        return x;
    }

    private static void runAbends(ClassMaker4 x, int by, int program, int steps) {
        Check.due("run", Setting.runNew(x, 1, 1), 2);
        Check.due("raised", x.raised(1), by);
        Check.due("by whom", x.told(1, 0), program);
        Check.due("steps", x.told(1, 2), steps);
        Check.due("with no stop", x.told(1, 1), ClassMaker4.NONE);
    }

    private static void runEnds(ClassMaker4 x, int steps) {
        Check.due("run", Setting.runNew(x, 1, 1), 1);
        Check.due("raised", x.raised(1), 0);
        Check.due("steps", x.told(1, 2), steps);
    }

    @Sentence(promise = 6, says = "7 the 1001st step")
    static void aThousandStepsAreFine() {
        runEnds(steps(999), 999);
        ClassMaker4 x = steps(1000);
        runEnds(x, 1000);
        Check.due("nobody abended", x.told(1, 0), ClassMaker4.NONE);
        ClassMaker4 jump = steps(999);
        Setting.rows(jump, 1, 9, 0, 61, 0, 0, 9);
        runEnds(jump, 1000);
        ClassMaker4 called = steps(999);
        Setting.rows(called, 1, 10, 3, 0);
        runEnds(called, 1000);
        Check.due("the call of no rows started it", called.state(3), 1);
    }

    @Sentence(promise = 6, says = "7 the 1001st step")
    static void the1001stStepIsNotTaken() {
        ClassMaker4 x = steps(1000);
        Setting.rows(x, 1, 0, 0, 9);
        runAbends(x, 7, 1, 1000);
        Check.due("its byte is as it was", x.at(1, 1, 0), 0);
        Check.due("the unit goes on", x.run(1, 2), 1);
        Check.due("the next run counts from 0 on", x.told(1, 2), 60);
        Check.due("raised", x.raised(1), 0);
        ClassMaker4 mark = steps(1000);
        Setting.rows(mark, 1, 11, 1, 0);
        runAbends(mark, 7, 1, 1000);
        Check.due("no mark", mark.told(1, 3), 0);
    }

    @Sentence(promise = 6, says = "7 the 1001st step")
    static void aThousandthRowThatEndsTheRunDoesSo() {
        ClassMaker4 stop = steps(999);
        Setting.rows(stop, 1, 12, 5, 0);
        runEnds(stop, 1000);
        Check.due("with what", stop.told(1, 1), 5);
        ClassMaker4 division = steps(999);
        Setting.rows(division, 1, 5, 0, 0);
        runAbends(division, 1, 1, 1000);
        ClassMaker4 noProgram = steps(999);
        Setting.rows(noProgram, 1, 10, 4, 0);
        runAbends(noProgram, 6, 1, 1000);
        ClassMaker4 start = steps(999);
        start.program(1, true);
        Setting.rows(start, 1, 10, 4, 0);
        Setting.rows(start, 4, 11, 1, 0);
        runAbends(start, 5, 4, 1000);
    }

    @Sentence(promise = 6, says = "7 the 1001st step")
    static void a1001stRowThatWouldEndTheRunIsNotReached() {
        ClassMaker4 stop = steps(1000);
        Setting.rows(stop, 1, 12, 5, 0);
        runAbends(stop, 7, 1, 1000);
        Check.due("the unit goes on", stop.run(1, 2), 1);
        ClassMaker4 division = steps(1000);
        Setting.rows(division, 1, 5, 0, 0);
        runAbends(division, 7, 1, 1000);
        ClassMaker4 call = steps(1000);
        Setting.rows(call, 1, 10, 3, 0);
        runAbends(call, 7, 1, 1000);
        Check.due("the called one is not made", call.count(2), 2);
    }

    @Sentence(promise = 6, says = "7 the 1001st step")
    static void the1001stStepInACalledProgramAndBehindACall() {
        ClassMaker4 x = steps(999);
        Setting.rows(x, 1, 10, 3, 0);
        Setting.rows(x, 3, 0, 0, 9);
        runAbends(x, 7, 3, 1000);
        Check.due("the called one was started", x.at(1, 3, 0), 0);
        ClassMaker4 back = steps(998);
        Setting.rows(back, 1, 10, 3, 0, 1, 0, 0);
        Setting.rows(back, 3, 0, 0, 9);
        runAbends(back, 7, 1, 1000);
        Check.due("the called one had ended", back.at(1, 3, 0), 9);
    }

    @Sentence(promise = 6, says = "7 the 1001st step")
    static void rowsWithoutEnd() {
        for (int op = 8; op <= 9; op++) {
            ClassMaker4 x = Setting.programs(1);
            Setting.rows(x, 1, op, 0, 1);
            runAbends(x, 7, 1, 1000);
        }
        ClassMaker4 x = Setting.programs(2);
        Setting.rows(x, 1, 10, 2, 0, 9, 0, 1);
        runAbends(x, 7, 1, 1000);
        Check.due("called without rows", x.state(2), 1);
    }

    @Sentence(promise = 6, says = "marks at most 100: more aren't noted")
    static void aHundredMarksAndOneMore() {
        for (int marks = 99; marks <= 102; marks++) {
            ClassMaker4 x = Setting.programs(2);
            for (int i = 1; i <= 60; i++) {
                Setting.rows(x, 2, 11, i, 0);
            }
            Setting.rows(x, 1, 10, 2, 0);
            for (int i = 61; i <= marks; i++) {
                Setting.rows(x, 1, 11, i, 0);
            }
            runEnds(x, marks + 1);
            int noted = Math.min(marks, 100);
            Check.due("marks", x.told(1, 3), noted);
            Check.due("the last one noted", x.mark(1, noted - 1), noted);
            Check.due("no more", x.mark(1, noted), ClassMaker4.NONE);
            Check.due("the first one", x.mark(1, 0), 1);
            Check.due("a run of fewer", x.run(1, 2), 1);
            Check.due("its marks", x.told(1, 3), 60);
            Check.due("no older ones", x.mark(1, 60), ClassMaker4.NONE);
        }
    }

    // calls

    @Sentence(promise = 6, says = "a call runs the latest class of that program in the unit (it is made if there is none)")
    static void aCallMakesAClassOnlyIfThereIsNone() {
        ClassMaker4 x = Setting.programs(2);
        Setting.rows(x, 1, 10, 2, 0);
        Check.due("run", Setting.runNew(x, 1, 1), 1);
        Check.due("it is made", x.count(2), 2);
        Check.due("and started", x.state(2), 1);
        Setting.rows(x, 2, 11, 9, 0);
        Check.due("run", x.run(1, 1), 1);
        Check.due("it is not made again", x.count(2), 2);
        Check.due("it is as it was", x.told(1, 3), 0);
        Check.due("a new one", x.make(1, 2), 3);
        Check.due("run", x.run(1, 1), 1);
        Check.due("the latest one is run", x.mark(1, 0), 9);
        x.unit();
        Check.due("run in another unit", Setting.runNew(x, 2, 1), 1);
        Check.due("it has its own", x.count(2), 5);
        Check.due("the class made is of the unit", x.state(5) * 10 + x.mark(2, 0), 19);
    }

    /** Programs 1 .. last; each calls the next one, and the last one the one in the argument, if it is one. */
    private static ClassMaker4 chain(int programs, int last, int calls) {
        ClassMaker4 x = Setting.programs(programs);
        for (int p = 1; p < last; p++) {
            Setting.rows(x, p, 10, p + 1, 0);
        }
        if (calls > 0) {
            Setting.rows(x, last, 10, calls, 0);
        }
        return x;
    }

    @Sentence(promise = 6, says = "3 a call within ten others")
    static void tenCallsWithinOneAnotherAreFine() {
        ClassMaker4 x = chain(11, 11, 0);
        runEnds(x, 10);
        Check.due("classes", x.count(2), 11);
        Check.due("the innermost one is started", x.state(11), 1);
    }

    @Sentence(promise = 6, says = "3 a call within ten others")
    static void anEleventhCallWithinTenIsTooMany() {
        ClassMaker4 x = chain(12, 12, 0);
        runAbends(x, 3, 11, 11);
        Check.due("it is not made", x.count(2), 11);
        Check.due("the unit goes on: from the second one it fits", x.run(1, 2), 1);
        Check.due("steps", x.told(1, 2), 10);
        Check.due("now it is made", x.count(2), 12);
        Check.due("too many also when it is made", x.run(1, 1), 2);
        Check.due("raised", x.raised(1), 3);
    }

    @Sentence(promise = 6, says = "3 a call within ten others")
    static void callsOfItselfCountToo() {
        // the byte counts the classes entered: 11 at most
        for (int times = 10; times <= 12; times++) {
            ClassMaker4 x = Setting.sized(4);
            Setting.rows(x, 1, 0, 1, 1, 0, 2, times, 2, 0, 1, 1, 3, 0, 3, 3, 2, 8, 3, 61, 10, 1, 0);
            Check.due("run, entered " + times, Setting.runNew(x, 1, 1), times <= 11 ? 1 : 2);
            Check.due("raised", x.raised(1), times <= 11 ? 0 : 3);
            Check.due("entered", x.at(1, 1, 0), Math.min(times, 11));
        }
    }

    @Sentence(promise = 6, says = "3 a call within ten others")
    static void callsOneAfterAnotherAreNotWithinOneAnother() {
        ClassMaker4 x = Setting.programs(3);
        Setting.sameRows(x, 1, 60, 10, 2, 0);
        Setting.sameRows(x, 2, 2, 10, 3, 0);
        runEnds(x, 60 * 3);
        Check.due("again", x.run(1, 1), 1);
    }

    @Sentence(promise = 6, says = "looked at ahead of 6")
    static void tooDeepACallOfAProgramThatIsntThere() {
        ClassMaker4 x = chain(11, 11, 12);
        runAbends(x, 3, 11, 11);
        Check.due("one less deep", x.run(1, 2), 2);
        Check.due("it is 6", x.raised(1), 6);
        Check.due("by whom", x.told(1, 0), 11);
    }

    @Sentence(promise = 6, says = "looked at ahead of 6")
    static void tooDeepACallWithoutAClassWhenThereAreForty() {
        ClassMaker4 x = chain(12, 12, 0);
        for (int p = 1; p <= 11; p++) {
            Check.due("class", x.make(1, p), p);
        }
        Setting.fillClasses(x, 40);
        Check.due("run", x.run(1, 1), 2);
        Check.due("raised", x.raised(1), 3);
        Check.due("one less deep", x.run(1, 2), 2);
        Check.due("it is 6", x.raised(1), 6);
    }

    @Sentence(promise = 6, says = "6 a call of a program without a class when there are 40 classes")
    static void aCallThatWouldMakeTheFortyFirstClass() {
        ClassMaker4 x = Setting.programs(12);
        Setting.rows(x, 3, 10, 2, 0, 11, 3, 0);
        Setting.rows(x, 4, 10, 5, 0, 11, 4, 0);
        x.make(1, 3);
        x.make(1, 4);
        Setting.fillClasses(x, 39);
        Check.due("a call makes the 40th", x.run(1, 3), 1);
        Check.due("classes", x.count(2), 40);
        Check.due("it is started", x.state(40), 1);
        Check.due("with 40 a call of one that has a class", x.run(1, 3), 1);
        Check.due("its mark", x.mark(1, 0), 3);
        Check.due("with 40 a call of one without", x.run(1, 4), 2);
        Check.due("raised", x.raised(1), 6);
        Check.due("by the calling one", x.told(1, 0), 4);
        Check.due("steps", x.told(1, 2), 1);
        Check.due("no row behind it", x.told(1, 3), 0);
        Check.due("classes", x.count(2), 40);
        Check.due("the unit goes on", x.run(1, 3), 1);
    }

    @Sentence(promise = 6, says = "or that isn't there, 7")
    static void aCallOfAProgramThatIsntThere() {
        for (int called = 2; called <= 12; called += 5) {
            ClassMaker4 x = Setting.programs(1);
            Setting.rows(x, 1, 10, called, 0, 11, 1, 0);
            runAbends(x, 6, 1, 1);
            Check.due("no class is made", x.count(2), 1);
            Check.due("no program is", x.count(0), 1);
        }
        ClassMaker4 x = Setting.programs(1);
        Setting.rows(x, 1, 10, 2, 0);
        runAbends(x, 6, 1, 1);
        x.program(1, false);
        Check.due("when it is there", x.run(1, 1), 1);
    }

    // abends, and the unit behind them

    @Sentence(promise = 6, says = "1 division by 0")
    static void divisionAndRestBy0() {
        for (int op = 5; op <= 6; op++) {
            for (int v : new int[] {-128, 0, 127}) {
                ClassMaker4 x = Setting.sized(2);
                Setting.rows(x, 1, 0, 0, v, op, 0, 1, 11, 1, 0);
                runAbends(x, 1, 1, 2);
                Check.due("x stays", x.at(1, 1, 0), v);
                Check.due("no row behind it", x.told(1, 3), 0);
            }
        }
    }

    @Sentence(promise = 6, says = "4 a size failure")
    static void aSizeFailureOfACalledProgramEndsTheWholeRun() {
        ClassMaker4 x = Setting.programs(2);
        Setting.rows(x, 1, 10, 2, 0, 11, 1, 0);
        Setting.rows(x, 2, 13, 0, -1, 11, 2, 0);
        runAbends(x, 4, 2, 2);
        Check.due("no row behind it, in either", x.told(1, 3), 0);
    }

    @Sentence(promise = 6, says = "5 a start that fails")
    static void aStartThatFailsWithinACall() {
        ClassMaker4 x = Setting.programs(1);
        x.program(1, true);
        Setting.rows(x, 1, 11, 1, 0, 10, 2, 0, 11, 2, 0);
        Setting.rows(x, 2, 11, 3, 0);
        Check.due("run", Setting.runNew(x, 1, 1), 2);
        Check.due("raised", x.raised(1), 5);
        Check.due("steps", x.told(1, 2), 2);
        Check.due("marks", x.told(1, 3), 1);
        Check.due("it was made", x.count(2), 2);
        Check.due("its start failed", x.state(2), 2);
        Check.due("the caller's didn't", x.state(1), 4);
    }

    @Sentence(promise = 6, says = "A run ABENDS by 1 division by 0, 2 a working byte that isn't there, 3 a call within ten others")
    static void anAbendWithinACallEndsTheWholeRun() {
        int[][] rows = {{5, 0, 0}, {6, 0, 0}, {0, 0, -1, 7, 0, 0}, {10, 2, 0}, {13, 0, -1}, {10, 12, 0}, {9, 0, 1}};
        int[] by = {1, 1, 2, 3, 4, 6, 7};
        int[] steps = {2, 2, 3, 11, 2, 2, 1000};
        for (int i = 0; i < rows.length; i++) {
            ClassMaker4 x = Setting.programs(2);
            Setting.rows(x, 1, 10, 2, 0, 11, 1, 0, 5, 0, 0);
            Setting.rows(x, 2, rows[i]);
            Setting.rows(x, 2, 11, 2, 0);
            runAbends(x, by[i], 2, steps[i]);
            Check.due("no row behind it, in either", x.told(1, 3), 0);
        }
    }

    /** Program 1 abends and is run again in the same unit, and so are others. */
    private static void unitGoesOn(ClassMaker4 x, int by) {
        Check.due("run", Setting.runNew(x, 1, 1), 2);
        Check.due("raised", x.raised(1), by);
        Check.due("its class is started, not ended", x.state(1), 1);
        Check.due("run again", x.run(1, 1), 2);
        Check.due("cancel", x.cancel(1, 1), 1);
        int last = x.count(0);
        Check.due("make another one", Setting.runNew(x, 1, last), 1);
        Check.due("raised no more", x.raised(1), 0);
    }

    @Sentence(promise = 6, says = "A stop, or 5, ends the unit")
    static void theOtherAbendsDontEndTheUnit() {
        int[][] rows = {{5, 0, 0}, {6, 0, 0}, {0, 0, -1, 7, 0, 0}, {10, 1, 0}, {13, 0, -1}, {10, 12, 0}, {9, 0, 1}};
        int[] by = {1, 1, 2, 3, 4, 6, 7};
        for (int i = 0; i < rows.length; i++) {
            ClassMaker4 x = Setting.programs(2);
            Setting.rows(x, 1, rows[i]);
            unitGoesOn(x, by[i]);
        }
    }

    /** Nothing may be done any more in unit 1. */
    private static void unitHasEnded(ClassMaker4 x, int programs) {
        int classes = x.count(2);
        for (int p = 1; p <= programs; p++) {
            Check.due("run of " + p, x.run(1, p), -5);
            Check.due("make of " + p, x.make(1, p), -5);
            Check.due("cancel of " + p, x.cancel(1, p), -5);
        }
        Check.due("classes", x.count(2), classes);
        Check.due("another unit", x.unit(), 2);
        Check.due("goes on", Setting.runNew(x, 2, 3), 1);
    }

    @Sentence(promise = 6, says = "A stop, or 5, ends the unit: nothing runs there any more.")
    static void nothingRunsBehindAStop() {
        for (int with : new int[] {0, 1, 127}) {
            ClassMaker4 x = Setting.programs(3);
            Setting.rows(x, 1, 12, with, 0);
            Check.due("run of another one ahead", Setting.runNew(x, 1, 2), 1);
            runEnds(x, 1);
            unitHasEnded(x, 3);
        }
        ClassMaker4 x = Setting.programs(3);
        Setting.rows(x, 1, 10, 2, 0);
        Setting.rows(x, 2, 12, 0, 0);
        runEnds(x, 2);
        unitHasEnded(x, 3);
    }

    @Sentence(promise = 6, says = "A stop, or 5, ends the unit: nothing runs there any more.")
    static void nothingRunsBehindAStartThatFails() {
        for (int direct = 0; direct <= 1; direct++) {
            ClassMaker4 x = new ClassMaker4();
            x.unit();
            Check.due("program", x.program(1, false), 1);
            Check.due("program", x.program(1, true), 2);
            Check.due("program", x.program(1, false), 3);
            Setting.rows(x, 1, 10, 2, 0);
            Check.due("run", Setting.runNew(x, 1, direct == 1 ? 2 : 1), 2);
            unitHasEnded(x, 3);
        }
    }

    // answers of run

    @Sentence(promise = 6, says = "1 it ends, or stops; 2 it abends")
    static void oneForAnEndAndAStopTwoForAnAbend() {
        ClassMaker4 x = Setting.programs(3);
        Check.due("without rows", Setting.runNew(x, 1, 1), 1);
        Setting.rows(x, 2, 5, 0, 0);
        Check.due("an abend", Setting.runNew(x, 1, 2), 2);
        Setting.rows(x, 3, 12, 127, 0);
        Check.due("a stop", Setting.runNew(x, 1, 3), 1);
    }

    @Sentence(promise = 6, says = "2 it abends; -2; -5 the unit has ended")
    static void aRunOfNoUnitOrProgram() {
        ClassMaker4 x = Setting.programs(2);
        x.make(1, 1);
        for (int n : new int[] {Integer.MIN_VALUE, -1, 0, 3, 9, 13, Integer.MAX_VALUE}) {
            Check.due("run(1, " + n + ")", x.run(1, n), -2);
            Check.due("run(" + n + ", 1)", x.run(n, 1), -2);
        }
        Check.due("run(2, 1), without unit 2", x.run(2, 1), -2);
        Check.due("it is not run", x.state(1), 0);
        Setting.endByStop(x, 2);
        Check.due("no program, in a unit that has ended", x.run(1, 3), -2);
    }

    @Sentence(promise = 6, says = "-5 the unit has ended, or there is no such class")
    static void aRunWithoutAClass() {
        ClassMaker4 x = Setting.programs(2);
        x.unit();
        Check.due("no class at all", x.run(1, 1), -5);
        x.make(1, 2);
        x.make(2, 1);
        Check.due("one of another program, one of another unit", x.run(1, 1), -5);
        Check.due("nothing is made", x.count(2), 2);
        Check.due("it is no run", x.told(1, 2), ClassMaker4.NONE);
        Check.due("with a class", Setting.runNew(x, 1, 1), 1);
    }

    @Sentence(promise = 6, says = "-2; -5 the unit has ended, or there is no such class")
    static void aRefusedRunLeavesTheLatestOne() {
        ClassMaker4 x = Setting.programs(3);
        Setting.rows(x, 1, 11, 8, 0, 5, 0, 0);
        Check.due("run", Setting.runNew(x, 1, 1), 2);
        Check.due("no program", x.run(1, 4), -2);
        Check.due("no class", x.run(1, 2), -5);
        Check.due("raised", x.raised(1), 1);
        Check.due("by whom", x.told(1, 0), 1);
        Check.due("steps", x.told(1, 2), 2);
        Check.due("mark", x.mark(1, 0), 8);
        Setting.rows(x, 3, 11, 9, 0, 12, 7, 0);
        Check.due("a stop", Setting.runNew(x, 1, 3), 1);
        Check.due("behind it", x.run(1, 1), -5);
        Check.due("with what", x.told(1, 1), 7);
        Check.due("mark", x.mark(1, 0), 9);
        Check.due("raised", x.raised(1), 0);
    }

    @Sentence(promise = 6, says = "The latest class of a program in a unit is run")
    static void theLatestOfTwoClasses() {
        ClassMaker4 x = Setting.programs(1);
        Setting.rows(x, 1, 11, 1, 0);
        x.make(1, 1);
        Setting.rows(x, 1, 11, 2, 0);
        x.make(1, 1);
        Setting.rows(x, 1, 11, 3, 0);
        Check.due("run", x.run(1, 1), 1);
        Check.due("the second one, not the first, nor the program now", x.told(1, 3), 2);
        Check.due("states", x.state(1) * 10 + x.state(2), 31);
    }
}

/** The edges of promises 1 to 5: what is numbered, how many there may be, what is refused. */
public final class LimitsTest {
    public static void main(String[] args) {
        Sentences.runAll(LimitsTest.class);
    }

    // Promise 1

    @Sentence(promise = 1, says = "No programs, units, classes.")
    static void aNewObjectIsEmpty() {
        ClassMaker4 x = new ClassMaker4();
        for (int what = 0; what <= 3; what++) {
            Check.due("count(" + what + ")", x.count(what), 0);
        }
        Check.due("code", x.code(1, 9, 0, 1), -2);
        Check.due("raised", x.raised(1), -2);
        Check.due("state", x.state(1), -2);
        Check.due("shares", x.shares(1, 1), false);
        Check.noByteAt(x, 1, 1, 0);
        Check.noOctet(x, 1, 0);
        Check.due("a program without a unit is not made", x.program(1, false) * 10 + x.make(1, 1), 10 - 2);
        Check.due("nor run", x.run(1, 1), -2);
        Check.due("nor cancelled", x.cancel(1, 1), -2);
    }

    @Sentence(promise = 1, says = "No programs, units, classes.")
    static void aNewObjectIsEmptyBesideAFullOne() {
        ClassMaker4 full = Setting.programs(12);
        Setting.fillClasses(full, 40);
        ClassMaker4 x = new ClassMaker4();
        Check.due("its programs", x.count(0), 0);
        Check.due("its units", x.count(1), 0);
        Check.due("its classes", x.count(2), 0);
        Check.due("its first program", x.program(1, false), 1);
        Check.due("its first unit", x.unit(), 1);
        Check.due("its first class", x.make(1, 1), 1);
    }

    @Sentence(promise = 1, says = "An object is used for at most 512 calls after it has been made")
    static void the512thCallIsAnsweredAsTheFirst() {
        ClassMaker4 x = Setting.programs(8);
        int calls = 9;
        for (int p = 1; p <= 8; p++) {
            for (int row = 1; row <= 60; row++) {
                Check.due("row " + row + " of program " + p, x.code(p, 11, row, 0), row);
                calls++;
            }
        }
        for (int p = 1; p <= 8; p++) {
            Check.due("class", x.make(1, p), p);
            calls++;
        }
        while (calls < 510) {
            Check.due("classes", x.count(2), 8);
            calls++;
        }
        Check.due("run, call 511", x.run(1, 8), 1);
        Check.due("mark, call 512", x.mark(1, 59), 60);
    }

    // Promise 2

    @Sentence(promise = 2, says = "PROGRAMS are numbered from 1 on (at most 12)")
    static void programsAre1To12() {
        ClassMaker4 x = new ClassMaker4();
        for (int p = 1; p <= 12; p++) {
            Check.due("no program " + p + " yet", x.code(p, 9, 0, 1), -2);
            Check.due("program " + p, x.program(1, false), p);
            Check.due("there it is", x.code(p, 9, 0, 1), 1);
        }
        Check.due("no program 0", x.code(0, 9, 0, 1), -2);
        Check.due("no program 13", x.code(13, 9, 0, 1), -2);
    }

    @Sentence(promise = 2, says = "each with 1 .. 100 WORKING BYTES")
    static void theSmallestAndTheLargestSize() {
        for (int size : new int[] {1, 2, 99, 100}) {
            ClassMaker4 x = Setting.sized(size);
            Setting.rows(x, 1, 0, size - 1, 7);
            Check.due("run", Setting.runNew(x, 1, 1), 1);
            Check.due("the last byte of " + size, x.at(1, 1, size - 1), 7);
            Check.noByteAt(x, 1, 1, size);
        }
    }

    @Sentence(promise = 2, says = "numbered from 0 on")
    static void workingBytesAreNumberedFrom0On() {
        ClassMaker4 x = Setting.sized(3);
        Setting.rows(x, 1, 0, 0, 10, 0, 1, 11, 0, 2, 12);
        Setting.runNew(x, 1, 1);
        for (int i = 0; i < 3; i++) {
            Check.due("byte " + i, x.at(1, 1, i), 10 + i);
        }
        Check.noByteAt(x, 1, 1, -1);
        Check.noByteAt(x, 1, 1, 3);
    }

    @Sentence(promise = 2, says = "A new program: its number")
    static void aRefusedProgramTakesNoNumber() {
        ClassMaker4 x = new ClassMaker4();
        x.program(0, false);
        Check.due("the first one", x.program(1, false), 1);
        x.program(101, true);
        Check.due("programs", x.count(0), 1);
        Check.due("the second one", x.program(1, true), 2);
    }

    @Sentence(promise = 2, says = "-4 size is not so")
    static void aSizeTooSmallOrTooLarge() {
        ClassMaker4 x = new ClassMaker4();
        for (int size : new int[] {Integer.MIN_VALUE, -100, -1, 0, 101, 102, 256, 257, Integer.MAX_VALUE}) {
            Check.due("program(" + size + ", false)", x.program(size, false), -4);
            Check.due("program(" + size + ", true)", x.program(size, true), -4);
        }
        Check.due("programs", x.count(0), 0);
    }

    @Sentence(promise = 2, says = "NONE.")
    static void aThirteenthProgram() {
        ClassMaker4 x = new ClassMaker4();
        for (int p = 1; p <= 12; p++) {
            Check.due("program " + p, x.program(p == 12 ? 100 : 1, false), p);
        }
        Check.due("a 13th one", x.program(1, false), ClassMaker4.NONE);
        Check.due("of 100 bytes", x.program(100, true), ClassMaker4.NONE);
        Check.due("programs", x.count(0), 12);
        Check.due("the 12th one has its bytes still", x.code(12, 0, 99, 0), 1);
        Check.due("the first one its own", x.code(1, 0, 1, 0), -4);
    }

    // Promise 3

    @Sentence(promise = 3, says = "ROWS, numbered from 1 on (at most 60)")
    static void rowsAre1To60() {
        ClassMaker4 x = Setting.programs(1);
        for (int row = 1; row <= 60; row++) {
            Check.due("row " + row, x.code(1, 11, row, 0), row);
        }
        Check.due("run", Setting.runNew(x, 1, 1), 1);
        Check.due("each row once", x.told(1, 2), 60);
        Check.due("the first one", x.mark(1, 0), 1);
        Check.due("the last one", x.mark(1, 59), 60);
    }

    @Sentence(promise = 3, says = "One more row of a program: its number")
    static void rowsAreNumberedInEachProgram() {
        ClassMaker4 x = Setting.programs(2);
        Check.due("row 1 of 1", x.code(1, 9, 0, 1), 1);
        Check.due("row 2 of 1", x.code(1, 9, 0, 1), 2);
        Check.due("row 1 of 2", x.code(2, 9, 0, 1), 1);
        Check.due("a refused one", x.code(1, 9, 0, 0), -4);
        Check.due("takes no number", x.code(1, 9, 0, 1), 3);
    }

    @Sentence(promise = 3, says = "-2 no such program")
    static void aRowOfNoProgram() {
        ClassMaker4 x = Setting.programs(2);
        for (int p : new int[] {Integer.MIN_VALUE, -1, 0, 3, 12, 13, Integer.MAX_VALUE}) {
            Check.due("code(" + p + ", 9, 0, 1)", x.code(p, 9, 0, 1), -2);
            Check.due("with an op that is not so", x.code(p, 14, 0, 1), -2);
        }
        Check.due("the last program", x.code(2, 9, 0, 1), 1);
    }

    @Sentence(promise = 3, says = "-4 op is not 0 .. 13")
    static void anOpTooSmallOrTooLarge() {
        ClassMaker4 x = Setting.programs(1);
        for (int op : new int[] {Integer.MIN_VALUE, -1, 14, 15, 256, Integer.MAX_VALUE}) {
            Check.due("op " + op, x.code(1, op, 0, 0), -4);
        }
        Check.due("op 0 is the first row", x.code(1, 0, 0, 0), 1);
        Check.due("op 13", x.code(1, 13, 0, 0), 2);
    }

    /** Around the edges of a working byte's number, for programs of 1 and of 100. */
    private static void workingByte(int op, boolean asA, int other) {
        for (int size : new int[] {1, 100}) {
            ClassMaker4 x = Setting.sized(size);
            for (int i : new int[] {Integer.MIN_VALUE, -1, size, size + 1, 256, Integer.MAX_VALUE}) {
                int a = asA ? i : other;
                int b = asA ? other : i;
                Check.due("size " + size + ", code(1, " + op + ", " + a + ", " + b + ")", x.code(1, op, a, b), -4);
            }
            Check.due("the first byte, op " + op, x.code(1, op, asA ? 0 : other, asA ? other : 0), 1);
            int last = size - 1;
            Check.due("the last byte, op " + op, x.code(1, op, asA ? last : other, asA ? other : last), 2);
        }
    }

    @Sentence(promise = 3, says = "or a, b are not so (working bytes")
    static void xIsAWorkingByteOfTheProgram() {
        workingByte(0, true, 5);
        for (int op = 1; op <= 7; op++) {
            workingByte(op, true, 0);
        }
        workingByte(8, true, 1);
        workingByte(13, true, 5);
    }

    @Sentence(promise = 3, says = "x is working byte a, y working byte b")
    static void yIsAWorkingByteOfTheProgram() {
        for (int op = 1; op <= 7; op++) {
            workingByte(op, false, 0);
        }
    }

    /** Around the edges of what a or b may be, beside working bytes. */
    private static void range(int op, boolean asA, int other, int low, int high) {
        ClassMaker4 x = Setting.programs(1);
        for (int v : new int[] {Integer.MIN_VALUE, low - 257, low - 1, high + 1, high + 257, Integer.MAX_VALUE}) {
            int a = asA ? v : other;
            int b = asA ? other : v;
            Check.due("code(1, " + op + ", " + a + ", " + b + ")", x.code(1, op, a, b), -4);
        }
        Check.due("the lowest, op " + op, x.code(1, op, asA ? low : other, asA ? other : low), 1);
        Check.due("the highest, op " + op, x.code(1, op, asA ? high : other, asA ? other : high), 2);
    }

    @Sentence(promise = 3, says = "0 x becomes b (-128 .. 127)")
    static void whatXBecomes() {
        range(0, false, 0, -128, 127);
    }

    @Sentence(promise = 3, says = "8 if x is 0 it goes to row b (1 .. 61")
    static void whereItGoesIfXIs0() {
        range(8, false, 0, 1, 61);
    }

    @Sentence(promise = 3, says = "9 to row b")
    static void whereItGoes() {
        range(9, false, 0, 1, 61);
    }

    @Sentence(promise = 3, says = "10: a 1 .. 12")
    static void whatItCalls() {
        range(10, true, 0, 1, 12);
    }

    @Sentence(promise = 3, says = "11 notes MARK a (0 .. 127)")
    static void whatItNotes() {
        range(11, true, 0, 0, 127);
    }

    @Sentence(promise = 3, says = "12 stops the run unit with a (0 .. 127)")
    static void whatItStopsWith() {
        range(12, true, 0, 0, 127);
    }

    @Sentence(promise = 3, says = "13 is a SIZE failure if x is above b (-128 .. 127)")
    static void whatXMayNotBeAbove() {
        range(13, false, 0, -128, 127);
    }

    @Sentence(promise = 3, says = "what a row doesn't need isn't looked at")
    static void whatARowDoesntNeed() {
        int row = 0;
        ClassMaker4 x = Setting.programs(1);
        for (int any : new int[] {Integer.MIN_VALUE, -129, -1, 0, 1, 62, 128, Integer.MAX_VALUE}) {
            Check.due("9 with a " + any, x.code(1, 9, any, 61), ++row);
            Check.due("10 with b " + any, x.code(1, 10, 1, any), ++row);
            Check.due("11 with b " + any, x.code(1, 11, 0, any), ++row);
            Check.due("12 with b " + any, x.code(1, 12, 0, any), ++row);
        }
    }

    @Sentence(promise = 3, says = "NONE when it has 60.")
    static void aSixtyFirstRow() {
        ClassMaker4 x = Setting.programs(2);
        Setting.sameRows(x, 1, 60, 11, 1, 0);
        Check.due("class", x.make(1, 1), 1);
        Check.due("a 61st row", x.code(1, 11, 2, 0), ClassMaker4.NONE);
        Check.due("one more", x.code(1, 0, 0, 0), ClassMaker4.NONE);
        Check.due("the program is as it was", x.make(1, 1), 1);
        Check.due("run", x.run(1, 1), 1);
        Check.due("steps", x.told(1, 2), 60);
        Check.due("another program takes rows", x.code(2, 11, 2, 0), 1);
    }

    // Promise 4

    @Sentence(promise = 4, says = "UNITS are numbered from 1 on (at most 8)")
    static void unitsAre1To8() {
        ClassMaker4 x = new ClassMaker4();
        x.program(1, false);
        for (int u = 1; u <= 8; u++) {
            Check.due("no unit " + u + " yet", x.raised(u), -2);
            Check.due("unit " + u, x.unit(), u);
            Check.due("there it is", x.raised(u), 0);
        }
        Check.due("no unit 0", x.make(0, 1), -2);
        Check.due("no unit 9", x.make(9, 1), -2);
        Check.due("the last one runs", Setting.runNew(x, 8, 1), 1);
    }

    @Sentence(promise = 4, says = "A new unit: its number; NONE.")
    static void aNinthUnit() {
        ClassMaker4 x = Setting.programs(1);
        for (int u = 2; u <= 8; u++) {
            Check.due("unit " + u, x.unit(), u);
        }
        Check.due("a 9th one", x.unit(), ClassMaker4.NONE);
        Check.due("again", x.unit(), ClassMaker4.NONE);
        Check.due("units", x.count(1), 8);
        Check.due("no unit 9", x.raised(9), -2);
        Setting.endByStop(x, 1);
        Check.due("a unit that has ended makes no room", x.unit(), ClassMaker4.NONE);
    }

    // Promise 5

    @Sentence(promise = 5, says = "A CLASS (numbered from 1 on, at most 40)")
    static void classesAre1To40() {
        ClassMaker4 x = Setting.programs(12);
        for (int u = 2; u <= 4; u++) {
            x.unit();
        }
        for (int type = 1; type <= 40; type++) {
            Check.due("no class " + type + " yet", x.state(type), -2);
            Check.due("class " + type, x.make(1 + (type - 1) / 12, 1 + (type - 1) % 12), type);
            Check.due("there it is", x.state(type), 0);
        }
        Check.due("no class 0", x.state(0), -2);
        Check.due("no class 41", x.state(41), -2);
    }

    @Sentence(promise = 5, says = "A class of a program for a unit: its number")
    static void aRefusedClassTakesNoNumber() {
        ClassMaker4 x = Setting.programs(2);
        x.make(2, 1);
        x.make(1, 3);
        Check.due("the first one", x.make(1, 2), 1);
        x.make(0, 0);
        x.make(1, 2);
        Check.due("the second one", x.make(1, 1), 2);
    }

    @Sentence(promise = 5, says = "is made of a program, as it is then, for a unit")
    static void aClassIsOfTheRowsThatThereWere() {
        ClassMaker4 x = Setting.programs(1);
        Check.due("without rows", x.make(1, 1), 1);
        Setting.rows(x, 1, 11, 5, 0);
        Check.due("run", x.run(1, 1), 1);
        Check.due("no row of it", x.told(1, 2), 0);
        Check.due("nor a member", x.count(3), 228);
        Check.due("with a row", x.make(1, 1), 2);
        Setting.rows(x, 1, 11, 6, 0);
        Check.due("run", x.run(1, 1), 1);
        Check.due("that row alone", x.told(1, 3), 1);
    }

    @Sentence(promise = 5, says = "if the unit's latest one of the program has just the same bytes it is that one")
    static void theSameBytesAreTheSameClass() {
        ClassMaker4 x = Setting.programs(1);
        Check.due("without rows", x.make(1, 1), 1);
        Check.due("again", x.make(1, 1), 1);
        x.code(1, 99, 0, 0);
        Check.due("behind a refused row", x.make(1, 1), 1);
        Setting.rows(x, 1, 0, 0, 3);
        Check.due("with a row", x.make(1, 1), 2);
        x.run(1, 1);
        Check.due("started", x.make(1, 1), 2);
        Check.due("it stays started", x.at(1, 1, 0), 3);
        x.cancel(1, 1);
        Check.due("cancelled", x.make(1, 1), 2);
        Check.due("it stays cancelled", x.state(2), 0);
        Setting.sameRows(x, 1, 59, 9, 0, 61);
        Check.due("with all rows", x.make(1, 1), 3);
        Check.due("again", x.make(1, 1), 3);
        Check.due("classes", x.count(2), 3);
    }

    @Sentence(promise = 5, says = "the unit's latest one of the program")
    static void anotherUnitOrProgramHasAnotherClass() {
        ClassMaker4 x = Setting.programs(2);
        x.unit();
        Check.due("unit 1, program 1", x.make(1, 1), 1);
        Check.due("unit 2, program 1", x.make(2, 1), 2);
        Check.due("unit 1, program 2", x.make(1, 2), 3);
        Check.due("none of them is dropped", x.state(1) + x.state(2) + x.state(3), 0);
        Check.due("each is its own", x.make(1, 1) * 100 + x.make(2, 1) * 10 + x.make(1, 2), 123);
    }

    @Sentence(promise = 5, says = "else that one is DROPPED by the new one, with its working bytes")
    static void aNewOneDropsTheLatestOne() {
        ClassMaker4 x = Setting.programs(1);
        x.unit();
        Setting.rows(x, 1, 0, 0, 3);
        Check.due("run", Setting.runNew(x, 1, 1), 1);
        Check.due("run in unit 2", Setting.runNew(x, 2, 1), 1);
        Setting.rows(x, 1, 13, 0, 3);
        Check.due("a row alone drops nothing", x.state(1) * 1000 + x.at(1, 1, 0), 1003);
        Check.due("the new one", x.make(1, 1), 3);
        Check.due("drops it", x.state(1), 3);
        Check.noByteAt(x, 1, 1, 0);
        Check.due("the new one isn't started", x.state(3), 0);
        Check.due("the other unit's isn't dropped", x.state(2) * 1000 + x.at(2, 1, 0), 1003);
    }

    @Sentence(promise = 5, says = "-2; -5 the unit has ended")
    static void aClassOfNoUnitOrProgram() {
        ClassMaker4 x = Setting.programs(2);
        for (int n : new int[] {Integer.MIN_VALUE, -1, 0, 3, 9, 13, Integer.MAX_VALUE}) {
            Check.due("make(1, " + n + ")", x.make(1, n), -2);
            Check.due("make(" + n + ", 1)", x.make(n, 1), -2);
        }
        Check.due("make(2, 1), without unit 2", x.make(2, 1), -2);
        Check.due("classes", x.count(2), 0);
        Setting.endByStop(x, 1);
        Check.due("no program, in a unit that has ended", x.make(1, 3), -2);
    }

    @Sentence(promise = 5, says = "-5 the unit has ended")
    static void aClassForAUnitThatHasEnded() {
        ClassMaker4 x = Setting.programs(2);
        x.program(1, true);
        Setting.endByStop(x, 1);
        Check.due("the latest one", x.make(1, 1), -5);
        Check.due("a new one", x.make(1, 2), -5);
        x.unit();
        Check.due("in the other unit", x.make(2, 3), 2);
        Check.due("a start that fails", x.run(2, 3), 2);
        Check.due("behind it", x.make(2, 3), -5);
        Check.due("and another program", x.make(2, 2), -5);
        Check.due("classes", x.count(2), 2);
    }

    @Sentence(promise = 5, says = "NONE when there are 40 (unless it is the latest one).")
    static void aFortyFirstClass() {
        ClassMaker4 x = Setting.programs(12);
        Check.due("the first", Setting.runNew(x, 1, 1), 1);
        Setting.fillClasses(x, 39);
        Check.due("the 40th", x.make(1, 2), 40);
        Check.due("a 41st", x.make(1, 3), ClassMaker4.NONE);
        Check.due("in an empty unit", x.make(8, 1), ClassMaker4.NONE);
        Check.due("the first again", x.make(1, 1), 1);
        Check.due("the 40th again", x.make(1, 2), 40);
        Setting.rows(x, 1, 9, 0, 61);
        Check.due("a new one in place of the first", x.make(1, 1), ClassMaker4.NONE);
        Check.due("which is not dropped", x.state(1), 1);
        Check.due("classes", x.count(2), 40);
        Check.due("no program", x.make(1, 13), -2);
        Setting.rows(x, 2, 12, 0, 0);
        Check.due("a unit goes on", x.run(1, 2), 1);
    }

    @Sentence(promise = 5, says = "-5 the unit has ended; NONE when there are 40")
    static void aFortyFirstClassForAUnitThatHasEnded() {
        ClassMaker4 x = Setting.programs(12);
        Setting.endByStop(x, 1);
        Setting.fillClasses(x, 40);
        Check.due("make", x.make(1, 2), -5);
        Check.due("make in another", x.make(8, 2), ClassMaker4.NONE);
    }
}

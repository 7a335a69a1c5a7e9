import java.util.Arrays;

/** Programs made to class files, and run in units; ../shared/DOC.md says what each call answers. */
public final class ClassMaker4 {
    public static final int NONE = -1;

    private static final int NO_SUCH = -2;
    private static final int NOT_SO = -4;
    private static final int NOT_NOW = -5;

    private static final int MOST_PROGRAMS = 12;
    private static final int MOST_WORKING_BYTES = 100;
    private static final int MOST_ROWS = 60;
    private static final int MOST_UNITS = 8;
    private static final int MOST_CLASSES = 40;
    private static final int MOST_STEPS = 1000;
    private static final int MOST_MARKS = 100;
    private static final int MOST_CALLS_OPEN = 10;
    private static final int LONGEST_PLAIN_ROW = 1000;

    private static final int OP_SET = 0;
    private static final int OP_COPY = 1;
    private static final int OP_ADD = 2;
    private static final int OP_SUBTRACT = 3;
    private static final int OP_MULTIPLY = 4;
    private static final int OP_DIVIDE = 5;
    private static final int OP_REST = 6;
    private static final int OP_STORE = 7;
    private static final int OP_IF_ZERO = 8;
    private static final int OP_GO = 9;
    private static final int OP_CALL = 10;
    private static final int OP_MARK = 11;
    private static final int OP_STOP = 12;
    private static final int OP_SIZE = 13;

    private static final int BY_NOTHING = 0;
    private static final int BY_DIVISION = 1;
    private static final int BY_NO_BYTE = 2;
    private static final int BY_DEPTH = 3;
    private static final int BY_SIZE = 4;
    private static final int BY_START = 5;
    private static final int BY_NO_CLASS = 6;
    private static final int BY_STEPS = 7;

    private final Store store;
    private final Machine machine;
    private final FileMaker files;
    private final RunUnit[] units;
    private int unitCount;

    public ClassMaker4() {
        store = new Store();
        machine = new Machine(store);
        files = new FileMaker();
        units = new RunUnit[MOST_UNITS];
    }

    public int program(int size, boolean startFails) {
        if (size < 1 || size > MOST_WORKING_BYTES) {
            return NOT_SO;
        }
        return store.addProgram(size, startFails);
    }

    public int code(int program, int op, int a, int b) {
        Program found = store.findProgram(program);
        if (found == null) {
            return NO_SUCH;
        }
        if (!found.takes(op, a, b)) {
            return NOT_SO;
        }
        return found.addRow(op, a, b);
    }

    public int unit() {
        if (unitCount >= units.length) {
            return NONE;
        }
        units[unitCount] = new RunUnit();
        unitCount++;
        return unitCount;
    }

    public int make(int unit, int program) {
        RunUnit home = findUnit(unit);
        Program source = store.findProgram(program);
        if (home == null || source == null) {
            return NO_SUCH;
        }
        if (home.ended) {
            return NOT_NOW;
        }
        MadeClass made = store.classFor(home, source);
        return made == null ? NONE : made.number;
    }

    public int run(int unit, int program) {
        RunUnit home = findUnit(unit);
        Program source = store.findProgram(program);
        if (home == null || source == null) {
            return NO_SUCH;
        }
        MadeClass made = home.latestOf(source);
        if (home.ended || made == null) {
            return NOT_NOW;
        }
        home.beginRun();
        machine.enter(home, made, 0);
        return home.failure == BY_NOTHING ? 1 : 2;
    }

    public byte at(int unit, int program, int i) throws ArrayIndexOutOfBoundsException {
        RunUnit home = findUnit(unit);
        Program source = store.findProgram(program);
        MadeClass made = home == null || source == null ? null : home.latestOf(source);
        if (made == null || !made.started || !made.hasByte(i)) {
            throw new ArrayIndexOutOfBoundsException("no such working byte");
        }
        return made.working[i];
    }

    public int raised(int unit) {
        RunUnit home = findUnit(unit);
        return home == null ? NO_SUCH : home.failure;
    }

    public int told(int unit, int what) {
        RunUnit home = findUnit(unit);
        if (home == null) {
            return NO_SUCH;
        }
        if (!home.hasRun) {
            return NONE;
        }
        switch (what) {
            case 0:
                return home.endedBy;
            case 1:
                return home.stoppedWith;
            case 2:
                return home.steps;
            case 3:
                return home.markCount;
            default:
                return NONE;
        }
    }

    public int mark(int unit, int i) {
        RunUnit home = findUnit(unit);
        return home == null ? NONE : home.markAt(i);
    }

    public byte octet(int type, int i) throws ArrayIndexOutOfBoundsException {
        MadeClass made = store.findClass(type);
        if (made == null) {
            throw new ArrayIndexOutOfBoundsException("no such class");
        }
        byte[] file = files.fileOf(made);
        if (i < 0 || i >= file.length) {
            throw new ArrayIndexOutOfBoundsException("no such byte");
        }
        return file[i];
    }

    public boolean shares(int unit, int other) {
        RunUnit one = findUnit(unit);
        RunUnit two = findUnit(other);
        return one != null && two != null && store.haveCommonClass(one, two);
    }

    public int cancel(int unit, int program) {
        RunUnit home = findUnit(unit);
        Program source = store.findProgram(program);
        if (home == null || source == null) {
            return NO_SUCH;
        }
        if (home.ended) {
            return NOT_NOW;
        }
        MadeClass made = home.latestOf(source);
        if (made == null || !made.started) {
            return 0;
        }
        made.started = false;
        return 1;
    }

    public long plain(int op, long a, long b) throws ArithmeticException, NegativeArraySizeException {
        if ((op == 3 || op == 4) && b == 0) {
            throw new ArithmeticException("/ by zero");
        }
        if (op == 5 && a < 0) {
            throw new NegativeArraySizeException("below 0");
        }
        switch (op) {
            case 0:
                return a + b;
            case 1:
                return a - b;
            case 2:
                return a * b;
            case 3:
                return a / b;
            case 4:
                return a % b;
            case 5:
                return Math.min(a, LONGEST_PLAIN_ROW);
            default:
                return 0;
        }
    }

    public int state(int type) {
        MadeClass made = store.findClass(type);
        if (made == null) {
            return NO_SUCH;
        }
        if (made.startFailed) {
            return 2;
        }
        if (made.home.ended) {
            return 4;
        }
        if (made.dropped) {
            return 3;
        }
        return made.started ? 1 : 0;
    }

    public int count(int what) {
        switch (what) {
            case 0:
                return store.programCount;
            case 1:
                return unitCount;
            case 2:
                return store.classCount;
            case 3:
                MadeClass newest = store.findClass(store.classCount);
                return newest == null ? 0 : files.fileOf(newest).length;
            default:
                return NONE;
        }
    }

    private RunUnit findUnit(int number) {
        return number >= 1 && number <= unitCount ? units[number - 1] : null;
    }

    /** One row of code; what its op doesn't need is kept, but never used. */
    private static final class Row {
        final int op;
        final int a;
        final int b;

        Row(int op, int a, int b) {
            this.op = op;
            this.a = a;
            this.b = b;
        }
    }

    private static final class Program {
        final int number;
        final int size;
        final boolean startFails;
        final Row[] rows;
        int rowCount;

        Program(int number, int size, boolean startFails) {
            this.number = number;
            this.size = size;
            this.startFails = startFails;
            this.rows = new Row[MOST_ROWS];
        }

        boolean takes(int op, int a, int b) {
            switch (op) {
                case OP_SET:
                case OP_SIZE:
                    return isByteNumber(a) && b >= -128 && b <= 127;
                case OP_COPY:
                case OP_ADD:
                case OP_SUBTRACT:
                case OP_MULTIPLY:
                case OP_DIVIDE:
                case OP_REST:
                case OP_STORE:
                    return isByteNumber(a) && isByteNumber(b);
                case OP_IF_ZERO:
                    return isByteNumber(a) && isTarget(b);
                case OP_GO:
                    return isTarget(b);
                case OP_CALL:
                    return a >= 1 && a <= MOST_PROGRAMS;
                case OP_MARK:
                case OP_STOP:
                    return a >= 0 && a <= 127;
                default:
                    return false;
            }
        }

        private boolean isByteNumber(int i) {
            return i >= 0 && i < size;
        }

        private boolean isTarget(int row) {
            return row >= 1 && row <= MOST_ROWS + 1;
        }

        int addRow(int op, int a, int b) {
            if (rowCount >= rows.length) {
                return NONE;
            }
            rows[rowCount] = new Row(op, a, b);
            rowCount++;
            return rowCount;
        }

        Row findRow(int row) {
            return row >= 1 && row <= rowCount ? rows[row - 1] : null;
        }
    }

    /**
     * A class of a unit. Rows are only ever added to a program, so the count of
     * rows at the making is all that has to be kept of the program as it was then.
     */
    private static final class MadeClass {
        final int number;
        final RunUnit home;
        final Program source;
        final int rowCount;
        final byte[] working;
        byte[] file;
        boolean started;
        boolean startFailed;
        boolean dropped;

        MadeClass(int number, RunUnit home, Program source) {
            this.number = number;
            this.home = home;
            this.source = source;
            this.rowCount = source.rowCount;
            this.working = new byte[source.size];
        }

        /** Answers false when its start fails. */
        boolean start() {
            if (started) {
                return true;
            }
            if (source.startFails) {
                startFailed = true;
                return false;
            }
            Arrays.fill(working, (byte) 0);
            started = true;
            return true;
        }

        Row findRow(int row) {
            return row <= rowCount ? source.findRow(row) : null;
        }

        boolean hasByte(int i) {
            return i >= 0 && i < working.length;
        }

        int valueOf(int i) {
            return hasByte(i) ? working[i] : 0;
        }

        /** Answers by what it fails. */
        private int setByte(int i, int value) {
            if (!hasByte(i)) {
                return BY_NO_BYTE;
            }
            working[i] = (byte) value;
            return BY_NOTHING;
        }

        /** A row that only works on the bytes; answers by what it fails. */
        int work(Row row) {
            int x = valueOf(row.a);
            int y = valueOf(row.b);
            switch (row.op) {
                case OP_SET:
                    return setByte(row.a, row.b);
                case OP_COPY:
                    return setByte(row.a, y);
                case OP_ADD:
                    return setByte(row.a, x + y);
                case OP_SUBTRACT:
                    return setByte(row.a, x - y);
                case OP_MULTIPLY:
                    return setByte(row.a, x * y);
                case OP_DIVIDE:
                    return y == 0 ? BY_DIVISION : setByte(row.a, x / y);
                case OP_REST:
                    return y == 0 ? BY_DIVISION : setByte(row.a, x % y);
                case OP_STORE:
                    return setByte(x, y);
                case OP_SIZE:
                    return x > row.b ? BY_SIZE : BY_NOTHING;
                default:
                    return BY_NOTHING;
            }
        }
    }

    /** A unit with its latest classes, and what its latest run left to tell. */
    private static final class RunUnit {
        final MadeClass[] latest;
        final byte[] marks;
        boolean ended;
        boolean hasRun;
        int failure;
        int endedBy;
        int stoppedWith;
        int steps;
        int markCount;

        RunUnit() {
            latest = new MadeClass[MOST_PROGRAMS];
            marks = new byte[MOST_MARKS];
        }

        MadeClass latestOf(Program program) {
            int i = program.number - 1;
            return i >= 0 && i < latest.length ? latest[i] : null;
        }

        void setLatest(Program program, MadeClass made) {
            int i = program.number - 1;
            if (i >= 0 && i < latest.length) {
                latest[i] = made;
            }
        }

        void beginRun() {
            hasRun = true;
            failure = BY_NOTHING;
            endedBy = NONE;
            stoppedWith = NONE;
            steps = 0;
            markCount = 0;
        }

        boolean takeStep() {
            if (steps >= MOST_STEPS) {
                return false;
            }
            steps++;
            return true;
        }

        void noteMark(int value) {
            if (markCount < marks.length) {
                marks[markCount] = (byte) value;
                markCount++;
            }
        }

        int markAt(int i) {
            return i >= 0 && i < markCount && i < marks.length ? marks[i] : NONE;
        }

        void abend(int by, Program program) {
            failure = by;
            endedBy = program.number;
            if (by == BY_START) {
                ended = true;
            }
        }

        void stop(int with, Program program) {
            stoppedWith = with;
            endedBy = program.number;
            ended = true;
        }
    }

    /** All programs and all classes of one ClassMaker4. */
    private static final class Store {
        final Program[] programs;
        final MadeClass[] classes;
        int programCount;
        int classCount;

        Store() {
            programs = new Program[MOST_PROGRAMS];
            classes = new MadeClass[MOST_CLASSES];
        }

        int addProgram(int size, boolean startFails) {
            if (programCount >= programs.length) {
                return NONE;
            }
            programs[programCount] = new Program(programCount + 1, size, startFails);
            programCount++;
            return programCount;
        }

        Program findProgram(int number) {
            return number >= 1 && number <= programCount ? programs[number - 1] : null;
        }

        MadeClass findClass(int number) {
            return number >= 1 && number <= classCount ? classes[number - 1] : null;
        }

        /**
         * The class of a program as it is now; null when it would be one too many.
         * The bytes tell the last row, so they are the same just when the rows are as many.
         */
        MadeClass classFor(RunUnit home, Program source) {
            MadeClass latest = home.latestOf(source);
            if (latest != null && latest.rowCount == source.rowCount) {
                return latest;
            }
            if (classCount >= classes.length) {
                return null;
            }
            if (latest != null) {
                latest.dropped = true;
            }
            MadeClass made = new MadeClass(classCount + 1, home, source);
            classes[classCount] = made;
            classCount++;
            home.setLatest(source, made);
            return made;
        }

        boolean haveCommonClass(RunUnit one, RunUnit two) {
            for (int i = 0; i < classCount && i < classes.length; i++) {
                MadeClass made = classes[i];
                if (made != null && made.home == one && made.home == two) {
                    return true;
                }
            }
            return false;
        }
    }

    /** Runs classes; false, or OVER, says that the whole run has ended, not this class alone. */
    private static final class Machine {
        private static final int OVER = 0;

        final Store store;

        Machine(Store store) {
            this.store = store;
        }

        boolean enter(RunUnit unit, MadeClass made, int callsOpen) {
            if (!made.start()) {
                unit.abend(BY_START, made.source);
                return false;
            }
            int next = 1;
            for (int turn = 0; turn <= MOST_STEPS; turn++) {
                Row row = made.findRow(next);
                if (row == null) {
                    return true;
                }
                if (!unit.takeStep()) {
                    unit.abend(BY_STEPS, made.source);
                    return false;
                }
                next = follow(unit, made, row, next, callsOpen);
                if (next == OVER) {
                    return false;
                }
            }
            return false;
        }

        /** Answers the row that comes next. */
        private int follow(RunUnit unit, MadeClass made, Row row, int number, int callsOpen) {
            switch (row.op) {
                case OP_IF_ZERO:
                    return made.valueOf(row.a) == 0 ? row.b : number + 1;
                case OP_GO:
                    return row.b;
                case OP_CALL:
                    return callProgram(unit, made, row.a, callsOpen) ? number + 1 : OVER;
                case OP_MARK:
                    unit.noteMark(row.a);
                    return number + 1;
                case OP_STOP:
                    unit.stop(row.a, made.source);
                    return OVER;
                default:
                    int failure = made.work(row);
                    if (failure == BY_NOTHING) {
                        return number + 1;
                    }
                    unit.abend(failure, made.source);
                    return OVER;
            }
        }

        private boolean callProgram(RunUnit unit, MadeClass caller, int program, int callsOpen) {
            if (callsOpen >= MOST_CALLS_OPEN) {
                unit.abend(BY_DEPTH, caller.source);
                return false;
            }
            MadeClass called = calledClass(unit, store.findProgram(program));
            if (called == null) {
                unit.abend(BY_NO_CLASS, caller.source);
                return false;
            }
            return enter(unit, called, callsOpen + 1);
        }

        /** A call takes the latest class as it is, even when the program has grown since. */
        private MadeClass calledClass(RunUnit unit, Program program) {
            if (program == null) {
                return null;
            }
            MadeClass latest = unit.latestOf(program);
            return latest != null ? latest : store.classFor(unit, program);
        }
    }

    /** Writes class files, one at a time, into a row of bytes that it uses again. */
    private static final class FileMaker {
        /** The longest file, of 60 rows of 20 bytes and a start that fails, has 1979. */
        private static final int MOST_FILE_BYTES = 2048;
        private static final int MEMBER_ROWS = 10;

        private static final int FILE_VERSION = 46;
        private static final int PUBLIC_CLASS = 33;
        private static final int STATIC_MEMBER = 8;
        private static final int CONSTANT_TEXT = 1;
        private static final int CONSTANT_CLASS = 7;
        private static final int CONSTANT_FIELD = 9;
        private static final int CONSTANT_METHOD = 10;
        private static final int CONSTANT_NAME = 12;
        private static final int FIELD_WORKING = 8;
        private static final int METHOD_CALL = 14;
        private static final int METHOD_MARK = 17;
        private static final int METHOD_STOP = 20;
        private static final int METHOD_SIZE = 23;
        private static final int TEXT_CODE = 24;
        private static final int TEXT_MEMBER_TYPE = 25;
        private static final int TEXT_START = 26;
        private static final int TEXT_START_TYPE = 27;
        private static final int FIRST_MEMBER_NAME = 28;

        private static final int ICONST_0 = 0x03;
        private static final int BIPUSH = 0x10;
        private static final int SIPUSH = 0x11;
        private static final int ILOAD_0 = 0x1A;
        private static final int BALOAD = 0x33;
        private static final int BASTORE = 0x54;
        private static final int POP = 0x57;
        private static final int IADD = 0x60;
        private static final int ISUB = 0x64;
        private static final int IMUL = 0x68;
        private static final int IDIV = 0x6C;
        private static final int IREM = 0x70;
        private static final int INT_TO_BYTE = 0x91;
        private static final int IFNE = 0x9A;
        private static final int IF_NOT_ABOVE = 0xA4;
        private static final int GOTO = 0xA7;
        private static final int TABLESWITCH = 0xAA;
        private static final int IRETURN = 0xAC;
        private static final int RETURN = 0xB1;
        private static final int GETSTATIC = 0xB2;
        private static final int PUTSTATIC = 0xB3;
        private static final int INVOKESTATIC = 0xB8;
        private static final int NEWARRAY = 0xBC;
        private static final int ARRAY_OF_BYTES = 8;

        /** How long the bytes of a row of each op are, without those of a jump. */
        private static final int[] ROW_LENGTHS = {8, 12, 20, 20, 20, 20, 20, 16, 9, 0, 5, 5, 5, 16};
        private static final int GOTO_LENGTH = 3;
        private static final int LEAVE_LENGTH = 4;
        private static final int LOAD_LENGTH = 6;
        private static final int BRANCH_LENGTH = 3;
        private static final int CALL_LENGTH = 5;
        private static final int START_LENGTH = 8;
        private static final int FAILURE_LENGTH = 4;
        private static final int SWITCH_LENGTH = 16;
        private static final int SWITCH_ROW_LENGTH = 4;

        final byte[] bytes;
        final int[] starts;
        int length;
        int firstRow;
        int lastRow;

        FileMaker() {
            bytes = new byte[MOST_FILE_BYTES];
            starts = new int[MEMBER_ROWS + 1];
        }

        /** Written when it is first asked for: most classes are only ever run. */
        byte[] fileOf(MadeClass made) {
            if (made.file == null) {
                int members = (made.rowCount + MEMBER_ROWS - 1) / MEMBER_ROWS;
                length = 0;
                writeConstants(made.source.number, members);
                writeFace(members);
                writeStart(made.source);
                for (int m = 0; m < members; m++) {
                    firstRow = m * MEMBER_ROWS + 1;
                    lastRow = Math.min(firstRow + MEMBER_ROWS - 1, made.rowCount);
                    writeMember(made.source, m);
                }
                u2(0);
                made.file = Arrays.copyOf(bytes, length);
            }
            return made.file;
        }

        private void writeConstants(int program, int members) {
            u4(0xCAFEBABE);
            u2(0);
            u2(FILE_VERSION);
            u2(FIRST_MEMBER_NAME + members);
            numberedText('P', program);
            classConstant(1);
            text("java/lang/Object");
            classConstant(3);
            text("W");
            text("[B");
            pair(CONSTANT_NAME, 5, 6);
            pair(CONSTANT_FIELD, 2, 7);
            text("K");
            classConstant(9);
            text("call");
            text("(I)V");
            pair(CONSTANT_NAME, 11, 12);
            pair(CONSTANT_METHOD, 10, 13);
            text("mark");
            pair(CONSTANT_NAME, 15, 12);
            pair(CONSTANT_METHOD, 10, 16);
            text("stop");
            pair(CONSTANT_NAME, 18, 12);
            pair(CONSTANT_METHOD, 10, 19);
            text("size");
            pair(CONSTANT_NAME, 21, 12);
            pair(CONSTANT_METHOD, 10, 22);
            text("Code");
            text("(I)I");
            text("<clinit>");
            text("()V");
            for (int m = 0; m < members; m++) {
                numberedText('m', m);
            }
        }

        private void writeFace(int members) {
            u2(PUBLIC_CLASS);
            u2(2);
            u2(4);
            u2(0);
            u2(1);
            u2(STATIC_MEMBER);
            u2(5);
            u2(6);
            u2(0);
            u2(1 + members);
        }

        private void writeStart(Program program) {
            int codeLength = program.startFails ? FAILURE_LENGTH + START_LENGTH : START_LENGTH;
            methodHead(TEXT_START, TEXT_START_TYPE, 2, 0, codeLength);
            if (program.startFails) {
                u1(ICONST_0);
                u1(ICONST_0);
                u1(IDIV);
                u1(POP);
            }
            push(program.size);
            u1(NEWARRAY);
            u1(ARRAY_OF_BYTES);
            withIndex(PUTSTATIC, FIELD_WORKING);
            u1(RETURN);
            methodEnd();
        }

        private void writeMember(Program program, int member) {
            int rows = lastRow - firstRow + 1;
            int end = layOutRows(program, SWITCH_LENGTH + SWITCH_ROW_LENGTH * rows);
            methodHead(FIRST_MEMBER_NAME + member, TEXT_MEMBER_TYPE, 5, 1, end + LEAVE_LENGTH);
            u1(ILOAD_0);
            u1(TABLESWITCH);
            u2(0);
            u4(end - 1);
            u4(firstRow);
            u4(lastRow);
            for (int i = 0; i < rows && i < starts.length; i++) {
                u4(starts[i] - 1);
            }
            for (int i = 0; i < rows && i < starts.length; i++) {
                Row row = program.findRow(firstRow + i);
                if (row != null) {
                    writeRow(row, starts[i]);
                }
            }
            withIndex(SIPUSH, lastRow + 1);
            u1(IRETURN);
            methodEnd();
        }

        /** Jumps go forward too, so every row's place is found ahead of the writing. */
        private int layOutRows(Program program, int first) {
            int place = first;
            for (int i = 0; i <= lastRow - firstRow && i < starts.length; i++) {
                starts[i] = place;
                Row row = program.findRow(firstRow + i);
                if (row != null) {
                    place += lengthOf(row);
                }
            }
            return place;
        }

        private int lengthOf(Row row) {
            int fixed = row.op >= 0 && row.op < ROW_LENGTHS.length ? ROW_LENGTHS[row.op] : 0;
            boolean jumps = row.op == OP_IF_ZERO || row.op == OP_GO;
            return jumps ? fixed + jumpLength(row.b) : fixed;
        }

        private int jumpLength(int row) {
            return isInside(row) ? GOTO_LENGTH : LEAVE_LENGTH;
        }

        /** Whether it is a row of the member that is being written. */
        private boolean isInside(int row) {
            return row >= firstRow && row <= lastRow;
        }

        private void writeRow(Row row, int place) {
            switch (row.op) {
                case OP_SET:
                    address(row.a);
                    push(row.b);
                    u1(BASTORE);
                    break;
                case OP_COPY:
                    address(row.a);
                    load(row.b);
                    u1(BASTORE);
                    break;
                case OP_STORE:
                    withIndex(GETSTATIC, FIELD_WORKING);
                    load(row.a);
                    load(row.b);
                    u1(BASTORE);
                    break;
                case OP_IF_ZERO:
                    load(row.a);
                    withIndex(IFNE, BRANCH_LENGTH + jumpLength(row.b));
                    jump(row.b, place + LOAD_LENGTH + BRANCH_LENGTH);
                    break;
                case OP_GO:
                    jump(row.b, place);
                    break;
                case OP_CALL:
                    hand(row.a, METHOD_CALL);
                    break;
                case OP_MARK:
                    hand(row.a, METHOD_MARK);
                    break;
                case OP_STOP:
                    hand(row.a, METHOD_STOP);
                    break;
                case OP_SIZE:
                    load(row.a);
                    push(row.b);
                    withIndex(IF_NOT_ABOVE, BRANCH_LENGTH + CALL_LENGTH);
                    hand(row.a, METHOD_SIZE);
                    break;
                default:
                    address(row.a);
                    load(row.a);
                    load(row.b);
                    u1(arithmeticOf(row.op));
                    u1(INT_TO_BYTE);
                    u1(BASTORE);
                    break;
            }
        }

        private int arithmeticOf(int op) {
            switch (op) {
                case OP_ADD:
                    return IADD;
                case OP_SUBTRACT:
                    return ISUB;
                case OP_MULTIPLY:
                    return IMUL;
                case OP_DIVIDE:
                    return IDIV;
                default:
                    return IREM;
            }
        }

        private void address(int workingByte) {
            withIndex(GETSTATIC, FIELD_WORKING);
            push(workingByte);
        }

        private void load(int workingByte) {
            withIndex(GETSTATIC, FIELD_WORKING);
            push(workingByte);
            u1(BALOAD);
        }

        private void hand(int value, int method) {
            push(value);
            withIndex(INVOKESTATIC, method);
        }

        private void jump(int row, int place) {
            int i = row - firstRow;
            if (isInside(row) && i >= 0 && i < starts.length) {
                withIndex(GOTO, starts[i] - place);
            } else {
                withIndex(SIPUSH, row);
                u1(IRETURN);
            }
        }

        private void push(int value) {
            u1(BIPUSH);
            u1(value);
        }

        private void withIndex(int instruction, int index) {
            u1(instruction);
            u1(index >> 8);
            u1(index);
        }

        private void methodHead(int name, int type, int stack, int locals, int codeLength) {
            u2(STATIC_MEMBER);
            u2(name);
            u2(type);
            u2(1);
            u2(TEXT_CODE);
            u4(12 + codeLength);
            u2(stack);
            u2(locals);
            u4(codeLength);
        }

        private void methodEnd() {
            u2(0);
            u2(0);
        }

        private void text(String signs) {
            u1(CONSTANT_TEXT);
            u2(signs.length());
            for (int i = 0; i < signs.length(); i++) {
                u1(signs.charAt(i));
            }
        }

        private void numberedText(char sign, int number) {
            u1(CONSTANT_TEXT);
            u2(number < 10 ? 2 : 3);
            u1(sign);
            if (number >= 10) {
                u1('0' + number / 10);
            }
            u1('0' + number % 10);
        }

        private void classConstant(int name) {
            u1(CONSTANT_CLASS);
            u2(name);
        }

        private void pair(int kind, int one, int two) {
            u1(kind);
            u2(one);
            u2(two);
        }

        private void u4(int value) {
            u2(value >> 16);
            u2(value);
        }

        private void u2(int value) {
            u1(value >> 8);
            u1(value);
        }

        private void u1(int value) {
            if (length >= 0 && length < bytes.length) {
                bytes[length] = (byte) value;
                length++;
            }
        }
    }
}

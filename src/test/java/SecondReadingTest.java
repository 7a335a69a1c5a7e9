import java.util.Random;

/** Any calls, the same of ClassMaker4 and of a second reading of the document: the answers are the same. */
public final class SecondReadingTest {
    private static final int OBJECTS = 1500;
    private static final int CALLS = 512;
    /** No byte. */
    private static final int THROWN = 1000;

    private static final int[] abends = new int[8];
    private static final int[] states = new int[5];
    private static int fullOfClasses = 0;
    private static int fullOfRows = 0;

    private final ClassMaker4 x = new ClassMaker4();
    private final SecondReading y = new SecondReading();
    private final Random random;
    private final int growth;

    private SecondReadingTest(int seed) {
        random = new Random(seed);
        growth = 1 + random.nextInt(6);
    }

    public static void main(String[] args) {
        for (int seed = 0; seed < OBJECTS; seed++) {
            Check.about("seed " + seed);
            new SecondReadingTest(seed).calls();
        }
        Check.about("");
        for (int by = 1; by <= 7; by++) {
            Check.due("abends by " + by + " came up", abends[by] > 0, true);
        }
        for (int state = 0; state <= 4; state++) {
            Check.due("state " + state + " came up", states[state] > 0, true);
        }
        Check.due("40 classes came up", fullOfClasses > 0, true);
        Check.due("60 rows came up", fullOfRows > 0, true);
        Check.end();
    }

    private void calls() {
        begin(1 + random.nextInt(3), 1 + random.nextInt(4));
        for (int i = y.count(0) + y.count(1); i < CALLS; i++) {
            if (random.nextInt(100) < 35) {
                look();
            } else {
                change();
            }
        }
        fullOfClasses += y.count(2) == 40 ? 1 : 0;
    }

    private void begin(int unitCount, int programCount) {
        for (int i = 0; i < unitCount; i++) {
            Check.due("unit()", x.unit(), y.unit());
        }
        for (int i = 0; i < programCount; i++) {
            program(1 + random.nextInt(6));
        }
    }

    private void program(int size) {
        boolean startFails = random.nextInt(15) == 0;
        Check.due("program(" + size + ", " + startFails + ")", x.program(size, startFails), y.program(size, startFails));
    }

    /** Mostly a number from 1 up to a little beyond the last one. */
    private int number(int last) {
        int pick = random.nextInt(60);
        return pick == 0 ? random.nextInt() : pick == 1 ? last + 1 : pick == 2 ? -random.nextInt(3) : 1 + random.nextInt(Math.max(1, last));
    }

    private int operand() {
        int pick = random.nextInt(12);
        return pick == 0 ? random.nextInt(300) - 150 : pick == 1 ? random.nextInt(62) : random.nextInt(6);
    }

    private void change() {
        int pick = random.nextInt(100);
        int unit = number(y.count(1));
        int program = number(y.count(0));
        if (pick < 10 * growth) {
            code(program);
        } else if (pick < 62) {
            Check.due("make(" + unit + ", " + program + ")", x.make(unit, program), y.make(unit, program));
        } else if (pick < 86) {
            Check.due("run(" + unit + ", " + program + ")", x.run(unit, program), y.run(unit, program));
            abends[Math.max(0, y.raised(unit))]++;
        } else if (pick < 96) {
            Check.due("cancel(" + unit + ", " + program + ")", x.cancel(unit, program), y.cancel(unit, program));
        } else if (pick < 98) {
            Check.due("unit()", x.unit(), y.unit());
        } else {
            program(random.nextInt(5) == 0 ? operand() : 1 + random.nextInt(100));
        }
    }

    private void code(int program) {
        int op = random.nextInt(30) == 0 ? operand() : random.nextInt(14);
        if (op == 12 && random.nextInt(4) != 0) {
            op = 11;
        }
        int a = operand();
        int b = op >= 8 && op <= 9 && random.nextBoolean() ? random.nextInt(62) : operand();
        int want = y.code(program, op, a, b);
        Check.due("code(" + program + ", " + op + ", " + a + ", " + b + ")", x.code(program, op, a, b), want);
        fullOfRows += want == 60 ? 1 : 0;
    }

    private void look() {
        int unit = number(y.count(1));
        int program = number(y.count(0));
        int type = number(y.count(2));
        int i = operand();
        switch (random.nextInt(12)) {
            case 0, 8, 9, 10 -> working(unit, program, i);
            case 1 -> Check.due("raised(" + unit + ")", x.raised(unit), y.raised(unit));
            case 2 -> Check.due("told(" + unit + ", " + i + ")", x.told(unit, i), y.told(unit, i));
            case 3 -> Check.due("mark(" + unit + ", " + i + ")", x.mark(unit, i), y.mark(unit, i));
            case 4 -> octet(type, random.nextInt(12) == 0 ? i : random.nextInt(y.count(3) + 50));
            case 5 -> {
                int other = random.nextBoolean() ? unit : number(y.count(1));
                Check.due("shares(" + unit + ", " + other + ")", x.shares(unit, other), y.shares(unit, other));
            }
            case 6, 7 -> {
                Check.due("state(" + type + ")", x.state(type), y.state(type));
                states[Math.max(0, y.state(type))]++;
            }
            default -> Check.due("count(" + i + ")", x.count(i), y.count(i));
        }
    }

    private void working(int unit, int program, int i) {
        Byte want = y.at(unit, program, i);
        if (want == null) {
            Check.noByteAt(x, unit, program, i);
        } else {
            Check.due("at(" + unit + ", " + program + ", " + i + ")", atOrThrown(unit, program, i), want);
        }
    }

    private void octet(int type, int i) {
        Byte want = y.octet(type, i);
        if (want == null) {
            Check.noOctet(x, type, i);
        } else {
            Check.due("octet(" + type + ", " + i + ")", octetOrThrown(type, i), want);
        }
    }

    private int atOrThrown(int unit, int program, int i) {
        try {
            return x.at(unit, program, i);
        } catch (ArrayIndexOutOfBoundsException e) {
            return THROWN;
        }
    }

    private int octetOrThrown(int type, int i) {
        try {
            return x.octet(type, i);
        } catch (ArrayIndexOutOfBoundsException e) {
            return THROWN;
        }
    }
}

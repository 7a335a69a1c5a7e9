/** Counts answers that are not the ones due; every test ends with end(). */
final class Check {
    private static int asked = 0;
    private static int wrong = 0;
    private static String subject = "";

    private Check() {
    }

    /** What the answers to come are about, told with each wrong one. */
    static void about(String what) {
        subject = what.isEmpty() ? "" : what + ": ";
    }

    static int asked() {
        return asked;
    }

    static void due(String call, long got, long want) {
        asked++;
        if (got != want) {
            wrong++;
            System.out.println(subject + call + " answered " + got + ", due is " + want);
        }
    }

    static void due(String call, boolean got, boolean want) {
        due(call, got ? 1 : 0, want ? 1 : 0);
    }

    /** The machine's own text begins with Index; the class throws for itself, ahead of the machine. */
    private static boolean isThrownByHand(RuntimeException e) {
        return e.getClass() == ArrayIndexOutOfBoundsException.class && !String.valueOf(e.getMessage()).startsWith("Index");
    }

    static void noByteAt(ClassMaker4 x, int unit, int program, int i) {
        boolean thrown = false;
        try {
            x.at(unit, program, i);
        } catch (RuntimeException e) {
            thrown = isThrownByHand(e);
        }
        due("at(" + unit + ", " + program + ", " + i + ") throws", thrown, true);
    }

    static void noOctet(ClassMaker4 x, int type, int i) {
        boolean thrown = false;
        try {
            x.octet(type, i);
        } catch (RuntimeException e) {
            thrown = isThrownByHand(e);
        }
        due("octet(" + type + ", " + i + ") throws", thrown, true);
    }

    static void plainThrows(ClassMaker4 x, int op, long a, long b, Class<?> kind) {
        boolean thrown = false;
        try {
            x.plain(op, a, b);
        } catch (RuntimeException e) {
            thrown = e.getClass() == kind;
        }
        due("plain(" + op + ", " + a + ", " + b + ") throws " + kind.getSimpleName(), thrown, true);
    }

    static void end() {
        System.out.println(asked + " answers looked at, " + wrong + " wrong");
        if (wrong != 0) {
            System.exit(1);
        }
    }
}

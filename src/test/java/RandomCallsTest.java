import java.util.Random;

/**
 * 512 calls with any arguments on one object: nothing is thrown but what the document
 * names, and only where it names it; and the same calls give the same answers.
 */
public final class RandomCallsTest {
    public static void main(String[] args) {
        for (int seed = 0; seed < 400; seed++) {
            long one = calls(seed);
            long two = calls(seed);
            Check.due("the same calls again, seed " + seed, one, two);
        }
        Check.end();
    }

    private static int any(Random random) {
        int pick = random.nextInt(20);
        if (pick == 0) {
            return random.nextInt();
        }
        if (pick == 1) {
            return random.nextBoolean() ? Integer.MIN_VALUE : Integer.MAX_VALUE;
        }
        return pick == 2 ? random.nextInt(300) - 150 : random.nextInt(pick < 8 ? 3 : 14);
    }

    private static long calls(int seed) {
        Random random = new Random(seed);
        ClassMaker4 x = new ClassMaker4();
        long sum = 0;
        for (int i = 0; i < 512; i++) {
            int kind = random.nextInt(24);
            int a = any(random);
            int b = any(random);
            int c = any(random);
            int d = any(random);
            try {
                sum = sum * 31 + call(x, kind, a, b, c, d);
            } catch (RuntimeException e) {
                sum = sum * 31 + 7;
                Class<?> thrown = e.getClass();
                boolean named = (kind == 5 || kind == 9) && thrown == ArrayIndexOutOfBoundsException.class
                    || kind == 12 && (thrown == ArithmeticException.class || thrown == NegativeArraySizeException.class);
                Check.due("seed " + seed + ", call " + i + " of kind " + kind + " threw " + thrown + ", which is named", named, true);
            }
        }
        return sum;
    }

    private static long call(ClassMaker4 x, int kind, int a, int b, int c, int d) {
        switch (kind) {
            case 0: return x.program(a, b % 7 == 0);
            case 1: return x.unit();
            case 2: return x.make(a, b);
            case 3: return x.run(a, b);
            case 4: return x.raised(a);
            case 5: return x.at(a, b, c);
            case 6: return x.told(a, b);
            case 7: return x.mark(a, b);
            case 8: return x.cancel(a, b);
            case 9: return x.octet(a, b);
            case 10: return x.shares(a, b) ? 1 : 0;
            case 11: return x.state(a);
            case 12: return x.plain(a, b, c);
            case 13: return x.count(a);
            case 14:
            case 15: return x.make(1, a);
            case 16:
            case 17: return x.run(1, a);
            case 18: return x.code(1, a, b, c);
            default: return x.code(a, b, c, d);
        }
    }
}

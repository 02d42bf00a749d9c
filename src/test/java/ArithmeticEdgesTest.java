import java.math.BigInteger;

/** Op 2 up to 31, and mulscc, for all pairs of numbers at the edges, against numbers that do not wrap. */
final class ArithmeticEdgesTest {
    private static final Checks checks = new Checks();
    private static final BigInteger TWO_32 = BigInteger.ONE.shiftLeft(32);
    private static final BigInteger GREATEST = BigInteger.valueOf(Integer.MAX_VALUE);
    private static final BigInteger LEAST = BigInteger.valueOf(Integer.MIN_VALUE);
    private static final int[] EDGES = {0, 1, 2, 3, -1, -2, -3, Integer.MAX_VALUE, Integer.MAX_VALUE - 1,
        Integer.MIN_VALUE, Integer.MIN_VALUE + 1, 65535, 65536, -65536, 0x40000000, 0xC0000000, 46341};
    private static final int MULSCC = 36;

    private static WindowMachine machine = new WindowMachine();
    private static int calls = 0;

    private static int result;
    private static int y;
    private static int overflow;
    private static int carry;

    public static void main(String[] args) {
        for (int kind : new int[] {0, 1, 2, 3, 4, 5, 6, 7, 8, 12, 10, 11, 14, 15, MULSCC}) {
            for (int a : EDGES) {
                for (int b : EDGES) {
                    if (kind == 14 || kind == 15) {
                        divisions(kind, a, b);
                    } else {
                        due(kind, a, b, 0, 6);
                        due(kind, a, b, 15, 7);
                        due(kind, a, b, 9, 1);
                    }
                }
            }
        }
        checks.end();
    }

    private static void divisions(int kind, int a, int b) {
        for (int high : EDGES) {
            due(kind, a, b, 3, high);
        }
    }

    private static void due(int kind, int a, int b, int flags, int yBefore) {
        if (kind >= 14 && kind <= 15 && b == 0) {
            dueTrap(kind, a, flags, yBefore);
            return;
        }
        reckon(kind, BigInteger.valueOf(a), BigInteger.valueOf(b), flags, yBefore);
        int ofResult = (result < 0 ? 8 : 0) + (result == 0 ? 4 : 0) + 2 * overflow + carry;
        for (int more = 0; more <= 16; more += 16) {
            int op3 = kind == MULSCC ? MULSCC : kind + more;
            perform(op3, a, b, flags, yBefore);
            String what = "op3 " + op3 + " of " + a + ", " + b + " with " + flags + ", Y " + yBefore;
            checks.due(what, machine.register(0, 3), result);
            checks.due(what + ": Y", machine.state(Checks.Y), y);
            checks.due(what + ": N Z V C", machine.state(Checks.FLAGS), op3 < 16 ? flags : ofResult);
        }
    }

    private static void dueTrap(int kind, int a, int flags, int yBefore) {
        for (int op3 = kind; op3 <= kind + 16; op3 += 16) {
            perform(op3, a, 0, flags, yBefore);
            String what = "op3 " + op3 + " of " + a + " by 0";
            checks.due(what, machine.register(0, 3), 77);
            checks.dueState(what, machine, Checks.HALTED, 42, Checks.Y, yBefore, Checks.FLAGS, flags);
        }
    }

    private static void perform(int op3, int a, int b, int flags, int yBefore) {
        calls += 12;
        if (calls > 512) {
            machine = new WindowMachine();
            calls = 12;
        }
        machine.put(0, 2 << 30 | 3 << 25 | op3 << 19 | 1 << 14 | 2);
        machine.start(0);
        machine.set(0, 1, a);
        machine.set(0, 2, b);
        machine.set(0, 3, 77);
        machine.mode(flags, yBefore, 0, 0, 4);
        machine.run(1);
    }

    private static void reckon(int kind, BigInteger a, BigInteger b, int flags, int yBefore) {
        y = yBefore;
        overflow = 0;
        carry = 0;
        BigInteger more = BigInteger.valueOf(flags & 1);
        switch (kind) {
            case 0: add(a, b, BigInteger.ZERO); break;
            case 1: result = a.and(b).intValue(); break;
            case 2: result = a.or(b).intValue(); break;
            case 3: result = a.xor(b).intValue(); break;
            case 4: subtract(a, b, BigInteger.ZERO); break;
            case 5: result = a.andNot(b).intValue(); break;
            case 6: result = a.or(b.not()).intValue(); break;
            case 7: result = a.xor(b).not().intValue(); break;
            case 8: add(a, b, more); break;
            case 12: subtract(a, b, more); break;
            case 10: multiply(withoutSign(a), withoutSign(b)); break;
            case 11: multiply(a, b); break;
            case 14: divide(pair(BigInteger.valueOf(yBefore), a), b, true); break;
            case 15: divide(pair(BigInteger.valueOf(yBefore), a), b, false); break;
            default: multiplyStep(a, b, flags); break;
        }
    }

    private static BigInteger withoutSign(BigInteger number) {
        return number.mod(TWO_32);
    }

    private static boolean isInt(BigInteger number) {
        return number.compareTo(LEAST) >= 0 && number.compareTo(GREATEST) <= 0;
    }

    /** V: the sum with signs is no int; C: the one without signs has more than 32 bits. */
    private static void add(BigInteger a, BigInteger b, BigInteger more) {
        BigInteger sum = a.add(b).add(more);
        result = sum.intValue();
        overflow = isInt(sum) ? 0 : 1;
        carry = withoutSign(a).add(withoutSign(b)).add(more).compareTo(TWO_32) >= 0 ? 1 : 0;
    }

    /** C: a borrow, as the difference without signs is below 0. */
    private static void subtract(BigInteger a, BigInteger b, BigInteger more) {
        BigInteger difference = a.subtract(b).subtract(more);
        result = difference.intValue();
        overflow = isInt(difference) ? 0 : 1;
        carry = withoutSign(a).subtract(withoutSign(b)).subtract(more).signum() < 0 ? 1 : 0;
    }

    private static void multiply(BigInteger a, BigInteger b) {
        BigInteger product = a.multiply(b);
        result = product.intValue();
        y = product.shiftRight(32).intValue();
    }

    private static BigInteger pair(BigInteger high, BigInteger low) {
        return high.multiply(TWO_32).add(withoutSign(low));
    }

    private static void divide(BigInteger dividend, BigInteger divisor, boolean noSigns) {
        BigInteger quotient = noSigns
            ? dividend.mod(TWO_32.multiply(TWO_32)).divide(withoutSign(divisor))
            : dividend.divide(divisor);
        BigInteger greatest = noSigns ? TWO_32.subtract(BigInteger.ONE) : GREATEST;
        BigInteger least = noSigns ? BigInteger.ZERO : LEAST;
        BigInteger nearest = quotient.min(greatest).max(least);
        result = nearest.intValue();
        overflow = nearest.equals(quotient) ? 0 : 1;
    }

    private static void multiplyStep(BigInteger a, BigInteger b, int flags) {
        int yBefore = y;
        boolean justOne = (flags & 8) == 0 != ((flags & 2) == 0);
        BigInteger shifted = withoutSign(a).shiftRight(1);
        if (justOne) {
            shifted = shifted.subtract(TWO_32.shiftRight(1));
        }
        add(shifted, yBefore % 2 == 0 ? BigInteger.ZERO : b, BigInteger.ZERO);
        BigInteger newY = withoutSign(BigInteger.valueOf(yBefore)).shiftRight(1);
        y = (a.testBit(0) ? newY.add(TWO_32.shiftRight(1)) : newY).intValue();
    }
}

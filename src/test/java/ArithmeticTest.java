/** Op 2 up to 40 and 48: results, flags and Y. */
final class ArithmeticTest {
    private static final Checks checks = new Checks();
    private static final int MIN = Integer.MIN_VALUE;
    private static final int MAX = Integer.MAX_VALUE;

    public static void main(String[] args) {
        addAndSubtract();
        logic();
        multiply();
        divideWithoutSign();
        divideWithSign();
        shifts();
        multiplyStep();
        specialY();
        operands();
        oneAfterAnother();
        noInstruction();
        checks.end();
    }

    /** The name's result, and Y, for %1 = a, %2 = b; wantFlags of the cc form, the other one leaves them. */
    private static void due(String name, int[] in, int result, int y, int wantFlags) {
        String text = name + " " + in[0] + " " + in[1];
        int flags = in.length > 2 ? in[2] : 0;
        int yBefore = in.length > 3 ? in[3] : 0;
        for (String suffix : new String[] {"", "cc"}) {
            WindowMachine machine = Checks.program(name + suffix + " %1,%2,%3");
            machine.set(0, 1, in[0]);
            machine.set(0, 2, in[1]);
            machine.mode(flags, yBefore, 0, 0, 4);
            checks.due(text + " run", machine.run(1), 1);
            checks.due(text + " result", machine.register(0, 3), result);
            checks.dueState(text + suffix, machine, Checks.Y, y, Checks.FLAGS, suffix.isEmpty() ? flags : wantFlags,
                Checks.HALTED, -1, Checks.PC, 4, Checks.NEXT, 8);
        }
    }

    private static void due(String name, int a, int b, int result, int wantFlags) {
        due(name, new int[] {a, b}, result, 0, wantFlags);
    }

    private static void addAndSubtract() {
        due("add", 3, 4, 7, 0);
        due("add", -3, 3, 0, 5);
        due("add", -3, -4, -7, 9);
        due("add", MAX, 1, MIN, 10);
        due("add", MIN, MIN, 0, 7);
        due("add", MIN, -1, MAX, 3);
        due("add", new int[] {3, 4, 15}, 7, 0, 0);
        due("addx", new int[] {3, 4, 1}, 8, 0, 0);
        due("addx", new int[] {3, 4, 14}, 7, 0, 0);
        due("addx", new int[] {-1, 0, 1}, 0, 0, 5);
        due("addx", new int[] {-1, -1, 1}, -1, 0, 9);
        due("addx", new int[] {MAX, 0, 1}, MIN, 0, 10);
        due("addx", new int[] {MAX, MIN, 1}, 0, 0, 5);
        due("sub", 7, 4, 3, 0);
        due("sub", 4, 7, -3, 9);
        due("sub", 4, 4, 0, 4);
        due("sub", MIN, 1, MAX, 2);
        due("sub", MAX, -1, MIN, 11);
        due("sub", 0, MIN, MIN, 11);
        due("sub", -1, 1, -2, 8);
        due("sub", -1, -2, 1, 0);
        due("sub", -2, -1, -1, 9);
        due("sub", new int[] {7, 4, 15}, 3, 0, 0);
        due("subx", new int[] {7, 4, 1}, 2, 0, 0);
        due("subx", new int[] {7, 4, 14}, 3, 0, 0);
        due("subx", new int[] {4, 4, 1}, -1, 0, 9);
        due("subx", new int[] {0, -1, 1}, 0, 0, 5);
        due("subx", new int[] {MIN, 0, 1}, MAX, 0, 2);
        due("subx", new int[] {5, 4, 1}, 0, 0, 4);
        due("subx", new int[] {-1, -1, 1}, -1, 0, 9);
    }

    private static void logic() {
        due("and", new int[] {12, 10, 3}, 8, 0, 0);
        due("or", new int[] {12, 10, 3}, 14, 0, 0);
        due("xor", new int[] {12, 10, 3}, 6, 0, 0);
        due("andn", new int[] {12, 10, 3}, 4, 0, 0);
        due("orn", new int[] {12, 10, 3}, -3, 0, 8);
        due("xnor", new int[] {12, 10, 3}, -7, 0, 8);
        due("and", new int[] {12, 3, 11}, 0, 0, 4);
        due("xor", new int[] {-1, MAX, 7}, MIN, 0, 8);
        due("xnor", new int[] {-1, 0, 7}, 0, 0, 4);
        due("andn", new int[] {-1, -1, 0}, 0, 0, 4);
    }

    private static void multiply() {
        due("umul", new int[] {6, 7, 3, 99}, 42, 0, 0);
        due("umul", new int[] {-1, -1, 3, 99}, 1, -2, 0);
        due("umul", new int[] {-1, 2, 0, 0}, -2, 1, 8);
        due("umul", new int[] {65536, 65536, 0, 0}, 0, 1, 4);
        due("smul", new int[] {6, 7, 3, 99}, 42, 0, 0);
        due("smul", new int[] {-1, -1, 3, 99}, 1, 0, 0);
        due("smul", new int[] {-1, 2, 0, 0}, -2, -1, 8);
        due("smul", new int[] {MIN, MIN, 0, 0}, 0, 0x40000000, 4);
        due("smul", new int[] {MIN, 1, 7, 0}, MIN, -1, 8);
    }

    private static void divideWithoutSign() {
        due("udiv", new int[] {100, 7, 3, 0}, 14, 0, 0);
        due("udiv", new int[] {-1, 1, 0, 0}, -1, 0, 8);
        due("udiv", new int[] {6, 7, 1, 0}, 0, 0, 4);
        due("udiv", new int[] {-1, -1, 0, -2}, -1, -2, 8);
        due("udiv", new int[] {0, -1, 0, -1}, -1, -1, 10);
        due("udiv", new int[] {-1, -1, 0, -1}, -1, -1, 10);
        due("udiv", new int[] {0, 1, 0, 1}, -1, 1, 10);
        due("udiv", new int[] {0, 2, 1, 1}, MIN, 1, 8);
        due("udiv", new int[] {0, MIN, 0, MAX}, -2, MAX, 8);
        due("udiv", new int[] {-1, MIN, 0, MAX}, -1, MAX, 8);
        due("udiv", new int[] {0, MIN, 0, MIN}, -1, MIN, 10);
        due("udiv", new int[] {5, -3, 0, 0x12345678}, 0x12345678, 0x12345678, 0);
        byZero("udiv");
    }

    private static void divideWithSign() {
        due("sdiv", new int[] {100, 7, 3, 0}, 14, 0, 0);
        due("sdiv", new int[] {-100, 7, 3, -1}, -14, -1, 8);
        due("sdiv", new int[] {100, -7, 0, 0}, -14, 0, 8);
        due("sdiv", new int[] {-100, -7, 0, -1}, 14, -1, 0);
        due("sdiv", new int[] {6, -7, 0, 0}, 0, 0, 4);
        due("sdiv", new int[] {MIN, 1, 0, -1}, MIN, -1, 8);
        due("sdiv", new int[] {MIN, 1, 0, 0}, MAX, 0, 2);
        due("sdiv", new int[] {MAX, 1, 0, 0}, MAX, 0, 0);
        due("sdiv", new int[] {MIN, -1, 0, 0}, MIN, 0, 8);
        due("sdiv", new int[] {MIN + 1, -1, 0, 0}, MIN, 0, 10);
        due("sdiv", new int[] {MAX, 1, 0, -1}, MIN, -1, 10);
        due("sdiv", new int[] {MIN, -1, 0, -1}, MAX, -1, 2);
        due("sdiv", new int[] {0, -1, 0, MIN}, MAX, MIN, 2);
        due("sdiv", new int[] {0, 1, 0, MIN}, MIN, MIN, 10);
        due("sdiv", new int[] {-1, MAX, 0, MAX}, MAX, MAX, 2);
        byZero("sdiv");
    }

    private static void byZero(String name) {
        for (String suffix : new String[] {"", "cc"}) {
            WindowMachine machine = Checks.program(name + suffix + " %1,%2,%3");
            machine.set(0, 1, 5);
            machine.set(0, 3, 33);
            machine.mode(15, 4, 0, 0, 4);
            machine.run(1);
            checks.due(name + " by 0 leaves rd", machine.register(0, 3), 33);
            checks.dueState(name + " by 0", machine, Checks.HALTED, 42, Checks.FLAGS, 15, Checks.Y, 4);
        }
    }

    /** One word of %1 and %2 to %3; then the flags and Y are due. */
    private static void dueOne(String line, int[] in, int result, int flags, int y) {
        WindowMachine machine = Checks.program(line);
        machine.set(0, 1, in[0]);
        machine.set(0, 2, in[1]);
        machine.mode(in[2], in[3], 0, 0, 4);
        machine.run(1);
        checks.due(line + " result", machine.register(0, 3), result);
        checks.dueState(line, machine, Checks.FLAGS, flags, Checks.Y, y, Checks.HALTED, -1, Checks.NEXT, 8);
    }

    private static void shifts() {
        dueOne("sll %1,%2,%3", new int[] {-3, 4, 5, 6}, -48, 5, 6);
        dueOne("sll %1,%2,%3", new int[] {-3, 36, 0, 0}, -48, 0, 0);
        dueOne("sll %1,31,%3", new int[] {3, 0, 0, 0}, MIN, 0, 0);
        dueOne("sll %1,-1,%3", new int[] {3, 0, 0, 0}, MIN, 0, 0);
        dueOne("srl %1,%2,%3", new int[] {-1, 28, 5, 6}, 15, 5, 6);
        dueOne("srl %1,%2,%3", new int[] {-1, 32, 0, 0}, -1, 0, 0);
        dueOne("sra %1,%2,%3", new int[] {-256, 4, 5, 6}, -16, 5, 6);
        dueOne("sra %1,%2,%3", new int[] {256, 68, 0, 0}, 16, 0, 0);
        lowestFiveBits();
    }

    /** "by the lowest five bits of B" */
    private static void lowestFiveBits() {
        for (int by : new int[] {0, 1, 30, 31, 32, 33, 63, 64, 4095, -4096, -1, -31, -32, MIN, MAX}) {
            int bits = (by % 32 + 32) % 32;
            for (int a : new int[] {MIN, MAX, -1, 1, 0x12345678, 0x87654321}) {
                long withoutSign = a & 0xFFFFFFFFL;
                dueOne("sll %1,%2,%3", new int[] {a, by, 6, 7}, (int) (withoutSign * (1L << bits)), 6, 7);
                dueOne("srl %1,%2,%3", new int[] {a, by, 6, 7}, (int) (withoutSign / (1L << bits)), 6, 7);
                dueOne("sra %1,%2,%3", new int[] {a, by, 6, 7}, (int) Math.floorDiv((long) a, 1L << bits), 6, 7);
            }
        }
    }

    private static void multiplyStep() {
        dueOne("mulscc %1,%2,%3", new int[] {6, 100, 0, 3}, 103, 0, 1);
        dueOne("mulscc %1,%2,%3", new int[] {7, 100, 0, 2}, 3, 0, MIN + 1);
        dueOne("mulscc %1,%2,%3", new int[] {0, 100, 15, 0}, 0, 4, 0);
        dueOne("mulscc %1,%2,%3", new int[] {0, 100, 8, 0}, MIN, 8, 0);
        dueOne("mulscc %1,%2,%3", new int[] {0, 100, 2, 0}, MIN, 8, 0);
        dueOne("mulscc %1,%2,%3", new int[] {0, MIN, 10, 1}, MIN, 8, 0);
        dueOne("mulscc %1,%2,%3", new int[] {0, MIN, 8, -1}, 0, 7, MAX);
        dueOne("mulscc %1,%2,%3", new int[] {-1, 1, 5, 1}, MIN, 10, MIN);
        dueOne("mulscc %1,5,%3", new int[] {4, 0, 1, 1}, 7, 0, 0);
        wholeProduct();
    }

    /** Thirty-two steps and one more by 0 multiply, as the flags and Y go from step to step. */
    private static void wholeProduct() {
        String[] lines = new String[33];
        for (int k = 0; k < 32; k++) {
            lines[k] = "mulscc %3,%2,%3";
        }
        lines[32] = "mulscc %3,%0,%3";
        WindowMachine machine = Checks.program(lines);
        machine.set(0, 2, -12345);
        machine.mode(0, 6789, 0, 0, 4);
        machine.run(33);
        long product = -12345L * 6789L;
        checks.due("lower half", machine.state(Checks.Y), (int) product);
        checks.due("higher half", machine.register(0, 3), (int) (product >> 32));
    }

    private static void specialY() {
        dueOne("rdy %3", new int[] {1, 2, 9, -77}, -77, 9, -77);
        dueOne("wry %1,%2", new int[] {12, 10, 9, 5}, 0, 9, 6);
        dueOne("wry %1,-1", new int[] {12, 0, 9, 5}, 0, 9, -13);
        for (int user = 0; user < 2; user++) {
            WindowMachine machine = new WindowMachine();
            machine.put(0, 0x87404000);
            machine.mode(0, 5, 0, 0, 4 * user);
            machine.run(1);
            checks.due("rd of what is not Y", machine.state(Checks.HALTED), 2);
            checks.due("leaves rd", machine.register(0, 3), 0);
            machine.put(0, 0x83802007);
            machine.start(0);
            machine.run(1);
            checks.dueState("wr of what is not Y", machine, Checks.HALTED, 2, Checks.Y, 0);
        }
        WindowMachine machine = Checks.program("rdy %3", "wry %0,8");
        machine.mode(0, 5, 0, 0, 0);
        machine.run(2);
        checks.due("rdy without the kernel", machine.register(0, 3), 5);
        checks.dueState("wry without the kernel", machine, Checks.Y, 8, Checks.HALTED, -1);
    }

    private static void operands() {
        dueOne("add %1,-4096,%3", new int[] {1, 0, 0, 0}, -4095, 0, 0);
        dueOne("add %1,4095,%3", new int[] {1, 0, 0, 0}, 4096, 0, 0);
        dueOne("add %0,%0,%3", new int[] {1, 2, 0, 0}, 0, 0, 0);
        dueOne("sethi 4194303,%3", new int[] {1, 2, 9, 7}, -1024, 9, 7);
        dueOne("sethi 1,%3", new int[] {1, 2, 9, 7}, 1024, 9, 7);

        WindowMachine machine = new WindowMachine();
        machine.put(0, 0x86005FE2);
        machine.set(0, 1, 5);
        machine.set(0, 2, 6);
        machine.run(1);
        checks.due("eight bits are not looked at", machine.register(0, 3), 11);

        WindowMachine zero = Checks.program("addcc %0,7,%0", "sethi 9,%0");
        zero.mode(15, 0, 0, 0, 4);
        zero.run(2);
        checks.due("register 0 stays 0", zero.register(0, 0), 0);
        checks.due("flags come though", zero.state(Checks.FLAGS), 0);

        WindowMachine same = Checks.program("sub %1,%1,%1", "add %2,%2,%2");
        same.set(0, 1, 9);
        same.set(0, 2, 9);
        same.run(2);
        checks.due("rd is a source, too", same.register(0, 1), 0);
        checks.due("rd is both sources", same.register(0, 2), 18);
    }

    /** What an earlier word left must not show in a later one's flags. */
    private static void oneAfterAnother() {
        String[] names = {"andcc", "orcc", "xorcc", "andncc", "orncc", "xnorcc", "umulcc", "smulcc", "udivcc", "sdivcc"};
        for (String name : names) {
            WindowMachine machine = Checks.program("addcc %1,%1,%0", name + " %2,3,%4", "addcc %1,%1,%0", "add %2,3,%0");
            machine.set(0, 1, MIN);
            machine.set(0, 2, 7);
            machine.run(1);
            checks.due("V and C", machine.state(Checks.FLAGS), 7);
            machine.run(1);
            checks.due("no V and C of " + name, machine.state(Checks.FLAGS) & 3, 0);
            machine.run(2);
            checks.due("add leaves them", machine.state(Checks.FLAGS), 7);
        }
    }

    private static void noInstruction() {
        int[] there = {0, 1, 2, 3, 4, 5, 6, 7, 8, 10, 11, 12, 14, 15, 16, 17, 18, 19, 20, 21, 22, 23, 24, 26, 27, 28,
            30, 31, 36, 37, 38, 39, 40, 41, 42, 43, 48, 49, 50, 51, 56, 57, 58, 60, 61};
        for (int op3 = 0; op3 < 64; op3++) {
            boolean isThere = false;
            for (int k : there) {
                isThere |= k == op3;
            }
            WindowMachine machine = new WindowMachine();
            // rd 0, rs1 0, the number 8: good for all that there are (and never, for ticc).
            machine.put(0, 2 << 30 | op3 << 19 | 1 << 13 | (op3 == 49 ? 0x80 : 8));
            machine.run(1);
            checks.due("op 2, op3 " + op3, machine.state(Checks.HALTED), isThere ? -1 : 2);
        }
    }
}

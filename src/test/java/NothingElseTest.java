/**
 * "A TRAP t instead of what is said": each word that traps, in each window, in the kernel and outside, with
 * traps on and off. "(Nothing else is done by the WORD.)": a twin that did not do it is the same else.
 */
final class NothingElseTest {
    private static final Checks checks = new Checks();
    private static final int AT = 4;
    private static final int BASE = 0xFFFFF000;
    private static final int FLAGS = 9;
    private static final int Y = 0x12345677;

    public static void main(String[] args) {
        always();
        ofTheKernel();
        noInstructions();
        rett();
        invalidWindows();
        outsideOfMemory();
        checks.end();
    }

    /** Traps that S does not matter to. %1 is 513, %2 is 2, all others are no 0. */
    private static void always() {
        due("udiv %3,0,%3", 42);
        due("sdiv %3,%0,%3", 42);
        due("udivcc %3,%0,%3", 42);
        due("sdivcc %3,0,%3", 42);
        due("jmpl %1,0,%3", 7);
        due("jmpl %1,%2,%3", 7);
        due("jmpl %1,1,%3", 7);
        due("ta %0,0", 128);
        due("ta %0,127", 255);
        due("tneg %1,%2", 131);
        due("ldd %1,7,%3", 2);
        due("std %3,%1,7", 2);
        due("ldd %1,0,%31", 2);
        due("std %31,%0,1024", 2);
        for (String name : new String[] {"ld", "lduh", "ldd", "ldsh", "swap"}) {
            due(name + " %1,0,%4", 7);
            due(name + " %1,512,%4", 7);
            due(name + " %0,1024,%4", 9);
            due(name + " %0,-8,%4", 9);
        }
        for (String name : new String[] {"st", "sth", "std"}) {
            due(name + " %4,%1,0", 7);
            due(name + " %4,%1,512", 7);
            due(name + " %4,%0,1024", 9);
            due(name + " %4,%0,-8", 9);
        }
        for (String line : new String[] {"ldub %0,1024,%4", "ldsb %0,-1,%4", "ldstub %0,1024,%4", "stb %4,%0,-1"}) {
            due(line, 9);
        }
    }

    private static void ofTheKernel() {
        String[] lines = {"rdpsr %3", "rdwim %3", "rdtbr %3", "wrpsr %0,160", "wrpsr %0,31", "wrwim %0,6", "wrtbr %3,%4"};
        for (String line : lines) {
            inEachWindow(wordOf(line), line, 0, 3);
        }
        for (int window = 4; window < 32; window++) {
            String line = "wrpsr %0," + (64 + window);
            inEachWindow(wordOf(line), line, 1, 2);
        }
    }

    /** "Others: TRAP 2", of op 0, 2 and 3. */
    private static void noInstructions() {
        for (int op2 : new int[] {0, 1, 3, 5, 6, 7}) {
            dueWord(3 << 25 | op2 << 22 | 5, 2);
            dueWord(0x3E3FFFFF | op2 << 22, 2);
        }
        int[] operations = {9, 13, 25, 29, 32, 33, 34, 35, 44, 45, 46, 47, 52, 53, 54, 55, 59, 62, 63};
        for (int op3 : operations) {
            dueWord(2 << 30 | 3 << 25 | op3 << 19 | 1 << 14 | 1 << 13 | 8, 2);
        }
        for (int op3 = 0; op3 < 64; op3++) {
            if (op3 > 15 || op3 == 8 || op3 == 11 || op3 == 12 || op3 == 14) {
                dueWord(3 << 30 | 4 << 25 | op3 << 19 | 1 << 13 | 512, 2);
            }
        }
        for (int other = 1; other < 32; other++) {
            dueWord(2 << 30 | 3 << 25 | 40 << 19 | other << 14, 2);
            dueWord(2 << 30 | other << 25 | 48 << 19 | 3 << 14 | 1 << 13 | 8, 2);
        }
    }

    /** "ET 1: TRAP 3 if S is 0, else 2; ET 0: HALTS with 3 if S is 0, with 6 .., with 7 .." */
    private static void rett() {
        for (String line : new String[] {"rett %0,8", "rett %1,0", "rett %1,%2"}) {
            int word = wordOf(line);
            boolean isMultiple = line.endsWith("8");
            for (int window = 0; window < 4; window++) {
                int above = 1 << (window + 1) % 4;
                for (int invalid : new int[] {0, above, 15, 15 - above}) {
                    boolean isInvalid = (invalid & above) != 0;
                    trap(word, line, new int[] {window, 0, 1, invalid}, 3);
                    trap(word, line, new int[] {window, 1, 1, invalid}, 2);
                    trap(word, line, new int[] {window, 0, 0, invalid}, 3);
                    if (isInvalid || !isMultiple) {
                        trap(word, line, new int[] {window, 1, 0, invalid}, isInvalid ? 6 : 7);
                    }
                }
            }
        }
    }

    /** "save: W - 1 INVALID: TRAP 5", "restore: W + 1, TRAP 6" */
    private static void invalidWindows() {
        for (int window = 0; window < 4; window++) {
            int below = 1 << (window + 3) % 4;
            int above = 1 << (window + 1) % 4;
            for (int k = 0; k < 4; k++) {
                for (int more : new int[] {0, 15}) {
                    trap(wordOf("save %3,%4,%5"), "save", new int[] {window, k & 1, k >> 1, below | more}, 5);
                    trap(wordOf("restore %3,%4,%5"), "restore", new int[] {window, k & 1, k >> 1, above | more}, 6);
                }
            }
        }
    }

    /** "else 1 if it is not in MEMORY" */
    private static void outsideOfMemory() {
        for (int target : new int[] {1024, 1028, -4, -8, Integer.MIN_VALUE, Integer.MAX_VALUE - 3}) {
            for (int on = 0; on < 2; on++) {
                int[] in = {1, 1, on, 0};
                Twins twins = new Twins(() -> {
                    WindowMachine machine = prepared(wordOf("jmpl %8,0,%0"), in);
                    machine.set(1, 8, target);
                    machine.put(AT + 4, 0x01000000);
                    machine.run(2);
                    return machine;
                });
                compare(twins, "at " + target, in, 1);
            }
        }
    }

    private static void due(String line, int trap) {
        inEachWindow(wordOf(line), line, 0, trap);
        inEachWindow(wordOf(line), line, 1, trap);
    }

    private static void dueWord(int word, int trap) {
        inEachWindow(word, Integer.toHexString(word), 0, trap);
        inEachWindow(word, Integer.toHexString(word), 1, trap);
    }

    /** With traps on and off. */
    private static void inEachWindow(int word, String text, int kernel, int trap) {
        for (int window = 0; window < 4; window++) {
            trap(word, text, new int[] {window, kernel, 0, 0}, trap);
            trap(word, text, new int[] {window, kernel, 1, 0}, trap);
        }
    }

    private static int wordOf(String line) {
        return Checks.translate(new WindowMachine(), 0, line);
    }

    /** The pieces of in: the window, S, ET and INVALID. */
    private static void trap(int word, String text, int[] in, int trap) {
        compare(new Twins(() -> prepared(word, in)), text + " in window " + in[0] + " S " + in[1] + " ET " + in[2], in, trap);
    }

    private static WindowMachine prepared(int word, int[] in) {
        WindowMachine machine = new WindowMachine();
        machine.put(0, 0x81882080 + in[0]);
        machine.put(AT, word);
        machine.put(512, 0x01020304);
        machine.put(1020, 0x05060708);
        machine.run(1);
        for (int w = 0; w < 4; w++) {
            for (int r = w == 0 ? 1 : 8; r < 24; r++) {
                machine.set(w, r, 1000 * w + r);
            }
        }
        machine.set(0, 1, 513);
        machine.set(0, 2, 2);
        machine.mode(FLAGS, Y, in[3], BASE, 4 * in[1] + in[2]);
        return machine;
    }

    private static void compare(Twins twins, String what, int[] in, int trap) {
        WindowMachine called = twins.called;
        int pc = twins.spared.state(Checks.PC);
        int next = twins.spared.state(Checks.NEXT);
        int steps = twins.spared.state(Checks.STEPS);
        checks.due(what + ": run(1)", called.run(1), 1);
        checks.dueState(what, called, Checks.FLAGS, FLAGS, Checks.Y, Y, Checks.INVALID, in[3], Checks.BASE, BASE,
            Checks.STEPS, steps + 1, Checks.TRAPS, 1, Checks.ANNULLED, 0);
        if (in[2] == 0) {
            checks.dueState(what, called, Checks.HALTED, trap, Checks.PC, pc, Checks.NEXT, next,
                Checks.WINDOW, in[0], Checks.MODE, 4 * in[1]);
        } else {
            int below = (in[0] + 3) % 4;
            checks.dueState(what, called, Checks.HALTED, -1, Checks.PC, BASE + 16 * trap,
                Checks.NEXT, BASE + 16 * trap + 4, Checks.WINDOW, below, Checks.MODE, 4 + 2 * in[1]);
            checks.due(what + ": LOCALS 1", called.set(below, 17, twins.spared.register(below, 17)), pc);
            checks.due(what + ": LOCALS 2", called.set(below, 18, twins.spared.register(below, 18)), next);
        }
        twins.dueSameMemory(checks, what);
        twins.dueSameRegisters(checks, what);
    }
}

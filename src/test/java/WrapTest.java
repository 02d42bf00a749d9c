/** "Numbers are ints that wrap if nothing else is said", and windows go round "modulo 4". */
final class WrapTest {
    private static final Checks checks = new Checks();
    private static final int MIN = Integer.MIN_VALUE;
    private static final int MAX = Integer.MAX_VALUE;

    public static void main(String[] args) {
        results();
        sumsOfAddresses();
        sumsOfTargets();
        sumsOfTraps();
        sumsOfWindows();
        callTargets();
        next();
        returning();
        insOfTheLastWindow();
        checks.end();
    }

    /** A machine that has done one line with %1 and %2. */
    private static WindowMachine done(String line, int a, int b) {
        WindowMachine machine = Checks.program(line);
        machine.put(8, 0x0A0B0C0D);
        machine.put(12, 0x0E0F1011);
        machine.set(0, 1, a);
        machine.set(0, 2, b);
        machine.run(1);
        return machine;
    }

    private static void results() {
        checks.due("MAX + 1", done("add %1,1,%3", MAX, 0).register(0, 3), MIN);
        checks.due("MIN + MIN", done("add %1,%2,%3", MIN, MIN).register(0, 3), 0);
        checks.due("MIN - 1", done("sub %1,1,%3", MIN, 0).register(0, 3), MAX);
        checks.due("0 - MIN", done("sub %0,%1,%3", MIN, 0).register(0, 3), MIN);
        checks.due("MAX * 2", done("smul %1,2,%3", MAX, 0).register(0, 3), -2);
        checks.due("1 << 31", done("sll %1,31,%3", 3, 0).register(0, 3), MIN);
        checks.due("the greatest of sethi", done("sethi 4194303,%3", 0, 0).register(0, 3), -1024);
        checks.due("the least below 0 of sethi", done("sethi 2097152,%3", 0, 0).register(0, 3), MIN);
    }

    private static void sumsOfAddresses() {
        String[] loads = {"ld 168496141", "ldub 10", "ldsb 10", "lduh 2571", "ldsh 2571", "ldd 168496141", "ldstub 10",
            "swap 168496141"};
        for (String row : loads) {
            String name = row.substring(0, row.indexOf(' '));
            int want = Integer.parseInt(row.substring(row.indexOf(' ') + 1));
            checks.due(name + " from MIN + (MIN + 8)", done(name + " %1,%2,%4", MIN, MIN + 8).register(0, 4), want);
            checks.due(name + " from -8 + 16", done(name + " %1,16,%4", -8, 0).register(0, 4), want);
            checks.dueState(name + " from MAX + 1", done(name + " %1,1,%4", MAX, 0), Checks.HALTED, 9);
            checks.dueState(name + " from MIN - 8", done(name + " %1,-8,%4", MIN, 0), Checks.HALTED, 9);
        }
        for (String name : new String[] {"st", "sth", "stb", "std"}) {
            checks.due(name + " to MIN + (MIN + 8)", done(name + " %0,%1,%2", MIN, MIN + 8).word(8) >>> 24, 0);
            checks.dueState(name + " to MAX + 1", done(name + " %0,%1,1", MAX, 0), Checks.HALTED, 9);
        }
    }

    private static void sumsOfTargets() {
        checks.dueState("jmpl to MIN + (MIN + 8)", done("jmpl %1,%2,%3", MIN, MIN + 8), Checks.NEXT, 8, Checks.HALTED, -1);
        checks.dueState("jmpl to MAX + 1", done("jmpl %1,1,%3", MAX, 0), Checks.NEXT, MIN, Checks.HALTED, -1);
        checks.dueState("jmpl to MIN - 4", done("jmpl %1,-4,%3", MIN, 0), Checks.NEXT, MAX - 3, Checks.HALTED, -1);
        checks.dueState("jmpl to MIN - 1", done("jmpl %1,-1,%3", MIN, 0), Checks.NEXT, 4, Checks.HALTED, 7);
        checks.dueState("rett to MIN + (MIN + 8)", done("rett %1,%2", MIN, MIN + 8), Checks.NEXT, 8, Checks.HALTED, -1);
        checks.dueState("rett to MAX + 1", done("rett %1,1", MAX, 0), Checks.NEXT, MIN, Checks.HALTED, -1);
        checks.dueState("rett to MIN - 1", done("rett %1,-1", MIN, 0), Checks.NEXT, 4, Checks.HALTED, 7);
    }

    /** "128 + (A + B & 127)" */
    private static void sumsOfTraps() {
        int[][] rows = {{0, 0, 128}, {0, 127, 255}, {0, 128, 128}, {0, 255, 255}, {0, -1, 255}, {0, -128, 128},
            {MAX, 1, 128}, {MIN, -1, 255}, {MIN, MIN, 128}, {MAX, MAX, 254}};
        for (int[] row : rows) {
            checks.dueState("ta " + row[0] + " " + row[1], done("ta %1,%2", row[0], row[1]), Checks.HALTED, row[2]);
        }
    }

    private static void sumsOfWindows() {
        checks.due("save MAX + 1", done("save %1,1,%3", MAX, 0).register(0, 3), MIN);
        checks.due("restore MIN + MIN", done("restore %1,%2,%3", MIN, MIN).register(0, 3), 0);
    }

    private static void callTargets() {
        int[][] rows = {{0x5FFFFFFF, 1020, 1020 + 2147483644}, {0x60000000, 0, MIN}, {0x60000000, 1020, MIN + 1020},
            {0x7FFFFFFF, 0, -4}, {0x40000000, 8, 8}, {0x40000001, 1020, 1024}};
        for (int[] row : rows) {
            WindowMachine machine = new WindowMachine();
            machine.put(row[1], row[0]);
            machine.start(row[1]);
            machine.run(1);
            checks.dueState("call " + Integer.toHexString(row[0]) + " at " + row[1], machine, Checks.NEXT, row[2],
                Checks.PC, row[1] + 4, Checks.HALTED, -1);
            checks.due("register 15", machine.register(0, 15), row[1]);
        }
    }

    /** "then PC is NEXT and NEXT 4 more" */
    private static void next() {
        int[][] rows = {{MAX - 3, MIN}, {-4, 0}, {MIN, MIN + 4}, {1020, 1024}, {0, 4}};
        for (int[] row : rows) {
            WindowMachine machine = Checks.program("jmpl %1,0,%0", "nop");
            machine.set(0, 1, row[0]);
            machine.run(2);
            checks.dueState("NEXT behind " + row[0], machine, Checks.PC, row[0], Checks.NEXT, row[1]);
        }
    }

    /** rett goes round from the last window to the first. */
    private static void returning() {
        for (int window = 0; window < 4; window++) {
            int above = (window + 1) % 4;
            for (int before = 0; before < 2; before++) {
                WindowMachine machine = Checks.program("wrpsr %0," + (128 + window), "rett %0,64");
                machine.run(1);
                machine.mode(5, 6, 15 - (1 << above), 4096, 4 + 2 * before);
                machine.run(1);
                checks.dueState("rett from " + window, machine, Checks.WINDOW, above, Checks.MODE, 6 * before + 1,
                    Checks.PC, 8, Checks.NEXT, 64, Checks.HALTED, -1, Checks.TRAPS, 0, Checks.FLAGS, 5,
                    Checks.Y, 6, Checks.INVALID, 15 - (1 << above), Checks.BASE, 4096);
            }
        }
    }

    /** "the OUTS of W + 1 (modulo 4)", as words see them. */
    private static void insOfTheLastWindow() {
        for (int window = 0; window < 4; window++) {
            WindowMachine machine = Checks.program("wrpsr %0," + (128 + window), "add %31,1,%24", "call 5");
            machine.set((window + 1) % 4, 15, 70);
            machine.run(3);
            checks.due("an in of " + window, machine.register((window + 1) % 4, 8), 71);
            checks.due("not of another one", machine.register((window + 2) % 4, 8), 0);
            checks.due("call in " + window, machine.register(window, 15), 8);
            checks.due("an in of the one below", machine.register((window + 3) % 4, 31), 8);
        }
    }
}

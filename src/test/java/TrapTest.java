/** TRAPS, HALTS, rett, ticc, and the words that only the kernel may do. */
final class TrapTest {
    private static final Checks checks = new Checks();

    public static void main(String[] args) {
        entering();
        nested();
        numbers();
        kinds();
        returning();
        notReturning();
        special();
        onlyTheKernel();
        status();
        checks.end();
    }

    private static void entering() {
        for (int kernel = 0; kernel < 2; kernel++) {
            for (int before = 0; before < 2; before++) {
                WindowMachine machine = new WindowMachine();
                Checks.translate(machine, 40, "ba 50");
                Checks.translate(machine, 44, "ta %0,4");
                machine.start(40);
                machine.mode(9, 7, 15, 0x12345678, 4 * kernel + 2 * before + 1);
                checks.due("run(2)", machine.run(2), 2);
                int base = 0x12345000 + 16 * 132;
                checks.dueState("trap", machine, Checks.PC, base, Checks.NEXT, base + 4, Checks.WINDOW, 3,
                    Checks.MODE, 4 + 2 * kernel, Checks.FLAGS, 9, Checks.Y, 7, Checks.INVALID, 15,
                    Checks.HALTED, -1, Checks.STEPS, 2, Checks.TRAPS, 1, Checks.ANNULLED, 0, Checks.BASE, 0x12345000);
                checks.due("local 1 is PC", machine.register(3, 17), 44);
                checks.due("local 2 is NEXT", machine.register(3, 18), 240);
                checks.due("local 0", machine.register(3, 16), 0);
                checks.due("local 3", machine.register(3, 19), 0);
            }
        }
    }

    private static void nested() {
        WindowMachine machine = Checks.program("ta %0,1");
        machine.mode(0, 0, 0, 0, 5);
        checks.due("a trap, then nothing at 2064", machine.run(200), 2);
        checks.dueState("a trap while traps are off halts", machine, Checks.HALTED, 1, Checks.PC, 2064,
            Checks.NEXT, 2068, Checks.TRAPS, 2, Checks.STEPS, 2, Checks.WINDOW, 3, Checks.MODE, 6);
        checks.due("local 1 stays", machine.register(3, 17), 0);
        checks.due("local 1 of no window further", machine.register(2, 18), 0);

        WindowMachine low = Checks.program("sdiv %0,%0,%1");
        low.mode(0, 0, 0, 0, 5);
        low.run(1);
        checks.dueState("the base is 0", low, Checks.PC, 672, Checks.NEXT, 676, Checks.TRAPS, 1);
        checks.due("why", low.run(1), 1);
        checks.due("no instruction there", low.state(Checks.HALTED), 2);
    }

    private static void numbers() {
        int[][] rows = {{0, 0, 128}, {127, 0, 255}, {128, 0, 128}, {-1, 0, 255}, {100, 29, 129}, {1000, 5, 237}};
        for (int[] row : rows) {
            WindowMachine machine = Checks.program("ta %1,%2");
            machine.set(0, 1, row[0]);
            machine.set(0, 2, row[1]);
            machine.run(1);
            checks.dueState("ta " + row[0] + " " + row[1], machine, Checks.HALTED, row[2], Checks.TRAPS, 1);
        }
        WindowMachine machine = new WindowMachine();
        machine.put(0, 0xB1D02005);
        machine.run(1);
        checks.due("only four bits of rd are looked at", machine.state(Checks.HALTED), 133);
        WindowMachine never = Checks.program("tn %0,3");
        never.run(1);
        checks.dueState("tn goes on", never, Checks.HALTED, -1, Checks.PC, 4, Checks.NEXT, 8, Checks.TRAPS, 0);
    }

    /** Each kind of trap goes to its own place. */
    private static void kinds() {
        due("jmpl %0,-4,%0", 3, 1);
        due("udiv %0,%0,%1", 1, 42);
        due("jmpl %0,2,%0", 1, 7);
        due("ld %0,1,%1", 1, 7);
        due("ld %0,1024,%1", 1, 9);
        due("ldd %0,0,%1", 1, 2);
        due("save %0,0,%0", 1, 5);
        due("restore %0,0,%0", 1, 6);
        due("rett %0,0", 1, 2);
        due("wrpsr %0,4", 1, 2);
    }

    private static void due(String line, int steps, int trap) {
        WindowMachine machine = Checks.program(line, "nop");
        machine.mode(0, 0, 10, 4096, 5);
        machine.run(steps);
        checks.dueState(line, machine, Checks.PC, 4096 + 16 * trap, Checks.TRAPS, 1, Checks.WINDOW, 3, Checks.MODE, 6,
            Checks.HALTED, -1);
    }

    private static void returning() {
        WindowMachine machine = Checks.program("ta %0,0", "add %1,1,%1", "add %2,1,%2");
        machine.mode(0, 0, 0, 0, 1);
        machine.run(1);
        checks.dueState("trapped", machine, Checks.PC, 2048, Checks.MODE, 4);

        WindowMachine user = new WindowMachine();
        Checks.translate(user, 32, "jmpl %18,0,%0");
        Checks.translate(user, 36, "rett %18,4");
        Checks.translate(user, 100, "add %0,0,%0");
        user.put(104, 0);
        Checks.translate(user, 108, "add %1,1,%1");
        Checks.translate(user, 112, "add %1,1,%1");
        user.start(100);
        user.mode(6, 0, 0, 0, 1);
        user.run(2);
        checks.dueState("trap 2", user, Checks.PC, 32, Checks.WINDOW, 3, Checks.MODE, 4, Checks.TRAPS, 1);
        user.run(2);
        checks.dueState("back", user, Checks.PC, 108, Checks.NEXT, 112, Checks.WINDOW, 0, Checks.MODE, 1, Checks.FLAGS, 6);
        user.run(2);
        checks.due("behind it", user.register(0, 1), 2);

        WindowMachine kernel = Checks.program("rett %1,%2");
        kernel.set(0, 1, 60);
        kernel.set(0, 2, 40);
        kernel.mode(15, 8, 1, 4096, 6);
        kernel.run(1);
        checks.dueState("rett", kernel, Checks.PC, 4, Checks.NEXT, 100, Checks.WINDOW, 1, Checks.MODE, 7,
            Checks.FLAGS, 15, Checks.Y, 8, Checks.INVALID, 1, Checks.TRAPS, 0);

        WindowMachine locals = Checks.program("rett %17,%18");
        locals.set(0, 17, 60);
        locals.set(0, 18, 4);
        locals.run(1);
        checks.due("in the window before", locals.state(Checks.NEXT), 64);
    }

    private static void notReturning() {
        dueRett("rett %0,8", 2, 0, 1, 2);
        dueRett("rett %0,8", 1, 0, 1, 3);
        dueRett("rett %0,8", 0, 0, 0, 3);
        dueRett("rett %0,9", 0, 2, 0, 3);
        dueRett("rett %0,9", 2, 2, 0, 6);
        dueRett("rett %0,9", 2, 13, 0, 7);
        dueRett("rett %0,10", 2, 0, 0, 7);
    }

    /** S is 1 if inKernel is 2, or else 0. */
    private static void dueRett(String line, int inKernel, int invalid, int on, int trap) {
        WindowMachine machine = Checks.program(line);
        int kernel = inKernel == 2 ? 4 : 0;
        machine.mode(0, 0, invalid, 4096, kernel + 2 + on);
        machine.run(1);
        if (on == 1) {
            checks.dueState(line, machine, Checks.HALTED, -1, Checks.PC, 4096 + 16 * trap, Checks.WINDOW, 3,
                Checks.TRAPS, 1, Checks.MODE, 4 + kernel / 2);
        } else {
            checks.dueState(line, machine, Checks.HALTED, trap, Checks.PC, 0, Checks.NEXT, 4, Checks.WINDOW, 0,
                Checks.MODE, kernel + 2, Checks.TRAPS, 1, Checks.STEPS, 1);
        }
    }

    private static void special() {
        WindowMachine machine = Checks.program("wrwim %1,%2", "rdwim %3", "wrtbr %1,%2", "rdtbr %4");
        machine.set(0, 1, 0x12345678);
        machine.set(0, 2, -1);
        machine.run(4);
        checks.dueState("wr", machine, Checks.INVALID, 7, Checks.BASE, 0xEDCBA000, Checks.HALTED, -1);
        checks.due("rdwim", machine.register(0, 3), 7);
        checks.due("rdtbr", machine.register(0, 4), 0xEDCBA000);
        lowestFourBits();
        withoutLowestTwelveBits();
    }

    /** "INVALID (its lowest four bits)" */
    private static void lowestFourBits() {
        for (int value : new int[] {0, 1, 8, 15, 16, 17, 31, 32, -1, -16, Integer.MIN_VALUE, Integer.MAX_VALUE}) {
            WindowMachine machine = Checks.program("wrwim %1,0", "rdwim %3");
            machine.set(0, 1, value);
            machine.mode(9, 7, 6, 4096, 6);
            machine.run(2);
            checks.dueState("wrwim " + value, machine, Checks.INVALID, value & 15, Checks.BASE, 4096, Checks.FLAGS, 9,
                Checks.Y, 7, Checks.MODE, 6, Checks.WINDOW, 0, Checks.HALTED, -1);
            checks.due("rdwim of " + value, machine.register(0, 3), value & 15);
        }
    }

    /** "BASE (bits 31 to 12; rd: likewise)" */
    private static void withoutLowestTwelveBits() {
        int[][] rows = {{0, 0}, {4095, 0}, {4096, 4096}, {-1, -4096}, {Integer.MIN_VALUE, Integer.MIN_VALUE},
            {Integer.MAX_VALUE, Integer.MAX_VALUE - 4095}, {-4097, -8192}};
        for (int[] row : rows) {
            WindowMachine machine = Checks.program("wrtbr %1,0", "rdtbr %3");
            machine.set(0, 1, row[0]);
            machine.mode(9, 7, 6, 8192, 6);
            machine.run(2);
            checks.dueState("wrtbr " + row[0], machine, Checks.INVALID, 6, Checks.BASE, row[1], Checks.FLAGS, 9,
                Checks.Y, 7, Checks.MODE, 6, Checks.WINDOW, 0, Checks.HALTED, -1);
            checks.due("rdtbr of " + row[0], machine.register(0, 3), row[1]);
        }
    }

    private static void onlyTheKernel() {
        String[] lines = {"rdpsr %1", "rdwim %1", "rdtbr %1", "wrpsr %0,128", "wrpsr %0,31", "wrwim %0,5", "wrtbr %0,-1"};
        for (String line : lines) {
            WindowMachine machine = Checks.program(line);
            machine.mode(3, 4, 6, 4096, 2);
            machine.run(1);
            checks.dueState(line, machine, Checks.HALTED, 3, Checks.FLAGS, 3, Checks.INVALID, 6, Checks.BASE, 4096,
                Checks.MODE, 2, Checks.WINDOW, 0);
            checks.due(line + ": rd", machine.register(0, 1), 0);
            machine.start(0);
            machine.mode(3, 4, 6, 4096, 1);
            machine.run(1);
            checks.dueState(line, machine, Checks.PC, 4144, Checks.MODE, 4, Checks.HALTED, -1);
        }
    }

    private static void status() {
        WindowMachine machine = Checks.program("rdpsr %1");
        for (int flags = 0; flags < 16; flags++) {
            for (int mode = 4; mode < 8; mode++) {
                machine.start(0);
                machine.mode(flags, 0, 0, 0, mode);
                machine.run(1);
                checks.due("rdpsr", machine.register(0, 1), flags << 20 | mode << 5);
            }
        }
        WindowMachine window = Checks.program("wrpsr %1,%2", "rdpsr %3");
        window.set(0, 1, 0xFFFFFFFF);
        window.set(0, 2, 0xFF4FFF5C);
        window.mode(2, 0, 0, 0, 4);
        window.run(2);
        checks.dueState("wrpsr", window, Checks.FLAGS, 11, Checks.MODE, 5, Checks.WINDOW, 3);
        checks.due("rdpsr", window.register(3, 3), 0x00B000A3);

        for (int w = 0; w < 32; w++) {
            WindowMachine other = Checks.program("wrpsr %1,0");
            other.set(0, 1, 0x00F00040 + w);
            other.run(1);
            boolean good = w < 4;
            checks.dueState("wrpsr with window " + w, other, Checks.HALTED, good ? -1 : 2,
                Checks.WINDOW, good ? w : 0, Checks.FLAGS, good ? 15 : 0, Checks.MODE, good ? 2 : 4);
        }
    }
}

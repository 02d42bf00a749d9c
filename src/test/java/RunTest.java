/** Promises 7 and 8 and 13: run and start. */
final class RunTest {
    private static final Checks checks = new Checks();

    public static void main(String[] args) {
        counting();
        halting();
        starting();
        lineStays();
        checks.end();
    }

    private static void counting() {
        WindowMachine machine = Checks.program("add %1,1,%1", "ba -1", "nop");
        checks.due("run(1)", machine.run(1), 1);
        checks.dueState("after 1", machine, Checks.PC, 4, Checks.NEXT, 8, Checks.STEPS, 1, Checks.TRAPS, 0);
        checks.due("run(200)", machine.run(200), 200);
        checks.dueState("after 201", machine, Checks.STEPS, 201, Checks.PC, 0, Checks.NEXT, 4);
        checks.due("%1", machine.register(0, 1), 67);
        for (int n : new int[] {0, -1, 201, Integer.MIN_VALUE, Integer.MAX_VALUE}) {
            checks.dueArgument("run(" + n + ")", () -> machine.run(n));
        }
        checks.dueState("nothing is changed", machine, Checks.STEPS, 201, Checks.PC, 0);
    }

    private static void halting() {
        WindowMachine machine = Checks.program("nop", "nop");
        checks.due("it halts in its third step", machine.run(200), 3);
        checks.dueState("halted", machine, Checks.HALTED, 2, Checks.PC, 8, Checks.NEXT, 12, Checks.STEPS, 3,
            Checks.TRAPS, 1, Checks.MODE, 4, Checks.WINDOW, 0);
        checks.dueThrow("run(1)", IllegalStateException.class, () -> machine.run(1));
        checks.dueThrow("run(200)", IllegalStateException.class, () -> machine.run(200));
        checks.dueArgument("run(0) of a halted one", () -> machine.run(0));
        checks.dueArgument("run(201) of a halted one", () -> machine.run(201));
        machine.mode(0, 0, 0, 0, 5);
        checks.dueThrow("mode does not wake it", IllegalStateException.class, () -> machine.run(1));
        checks.dueState("still halted", machine, Checks.HALTED, 2, Checks.STEPS, 3, Checks.TRAPS, 1);

        WindowMachine last = Checks.program();
        Checks.translate(last, 1020, "nop");
        last.start(1020);
        checks.due("out of memory", last.run(200), 2);
        checks.dueState("out of memory", last, Checks.HALTED, 1, Checks.PC, 1024, Checks.NEXT, 1028);
    }

    private static void starting() {
        WindowMachine machine = Checks.program("addcc %1,%2,%3", "bne 5,a", "ta %0,9");
        machine.put(512, 99);
        for (int w = 0; w < 4; w++) {
            for (int r = 1; r < 32; r++) {
                machine.set(w, r, -1);
            }
        }
        machine.mode(15, 3, 5, 8192, 7);
        machine.run(1);
        machine.mode(4, 3, 5, 8192, 7);
        machine.run(1);
        checks.dueState("before", machine, Checks.ANNULLED, 1, Checks.STEPS, 2);
        checks.due("start(512): it had not halted", machine.start(512), -1);
        checks.dueState("reset", machine, Checks.PC, 512, Checks.NEXT, 516, Checks.WINDOW, 0, Checks.FLAGS, 0,
            Checks.Y, 0, Checks.INVALID, 0, Checks.MODE, 4, Checks.BASE, 0, Checks.HALTED, -1,
            Checks.STEPS, 0, Checks.TRAPS, 0, Checks.ANNULLED, 0);
        for (int w = 0; w < 4; w++) {
            for (int r = 0; r < 32; r++) {
                checks.due("register(" + w + ", " + r + ")", machine.register(w, r), 0);
            }
        }
        checks.due("memory stays", machine.word(512), 99);
        machine.start(8);
        checks.due("run(9)", machine.run(9), 1);
        checks.dueState("why it halted", machine, Checks.HALTED, 137, Checks.TRAPS, 1);
        checks.due("start(0) tells it", machine.start(0), 137);
        checks.dueState("it runs again", machine, Checks.HALTED, -1, Checks.TRAPS, 0, Checks.STEPS, 0);
        checks.due("run(1)", machine.run(1), 1);
        Checks.translate(machine, 16, "restore %0,0,%0");
        machine.start(16);
        machine.run(1);
        checks.due("W moves", machine.state(Checks.WINDOW), 1);
        machine.start(16);
        checks.due("W is 0 again", machine.state(Checks.WINDOW), 0);
        checks.due("start(1020)", machine.start(1020), -1);
        checks.dueState("at 1020", machine, Checks.PC, 1020, Checks.NEXT, 1024);
        for (int a : new int[] {-4, -1, 1, 2, 3, 1022, 1023, 1024, Integer.MIN_VALUE, Integer.MAX_VALUE}) {
            checks.dueArgument("start(" + a + ")", () -> machine.start(a));
        }
        checks.dueState("nothing is changed", machine, Checks.PC, 1020, Checks.NEXT, 1024);
    }

    private static void lineStays() {
        WindowMachine machine = new WindowMachine();
        Checks.type(machine, "add");
        checks.dueArgument("add", () -> machine.assemble(0));
        checks.due("three letters", machine.letters(Checks.octets("nop")), 3);
        machine.start(4);
        checks.due("start leaves place()", machine.place(), 3);
        checks.due("start leaves the line", machine.assemble(0), 0x01000000);
        machine.start(4);
        checks.due("start leaves place() of a good line", machine.place(), -1);
    }
}

/** CALL, SETHI's format, BRANCH, jmpl and what is ANNULLED. */
final class BranchTest {
    private static final Checks checks = new Checks();
    private static final String[] NAMES = {
        "n", "e", "le", "l", "leu", "cs", "neg", "vs", "a", "ne", "g", "ge", "gu", "cc", "pos", "vc"};

    public static void main(String[] args) {
        conditions();
        annulling();
        delay();
        calls();
        jumps();
        otherFormats();
        checks.end();
    }

    private static boolean isMet(int condition, int flags) {
        boolean n = (flags & 8) != 0;
        boolean z = (flags & 4) != 0;
        boolean v = (flags & 2) != 0;
        boolean c = (flags & 1) != 0;
        boolean[] met = {false, z, z || n != v, n != v, c || z, c, n, v,
            true, !z, !(z || n != v), n == v, !c && !z, !c, !n, !v};
        return met[condition];
    }

    private static void conditions() {
        for (int k = 0; k < 16; k++) {
            WindowMachine machine = Checks.program("b" + NAMES[k] + " 25", "b" + NAMES[k] + " 25,a", "t" + NAMES[k] + " %0,3");
            for (int flags = 0; flags < 16; flags++) {
                boolean met = isMet(k, flags);
                String text = NAMES[k] + " with " + flags;
                machine.start(0);
                machine.mode(flags, 0, 0, 0, 4);
                machine.run(1);
                checks.dueState("b" + text, machine, Checks.PC, 4, Checks.NEXT, met ? 100 : 8, Checks.ANNULLED, 0);
                machine.start(4);
                machine.mode(flags, 0, 0, 0, 4);
                machine.run(1);
                checks.dueState("b" + text + ",a", machine, Checks.PC, 8, Checks.NEXT, met ? 104 : 12,
                    Checks.ANNULLED, met && k != 8 ? 0 : 1);
                machine.start(8);
                machine.mode(flags, 0, 0, 0, 4);
                machine.run(1);
                checks.dueState("t" + text, machine, Checks.HALTED, met ? 131 : -1, Checks.FLAGS, flags);
            }
        }
    }

    private static void annulling() {
        WindowMachine machine = Checks.program("ba 4,a", "add %1,1,%1", "nop", "nop", "add %2,1,%2");
        checks.due("run(3)", machine.run(3), 3);
        checks.due("passed over", machine.register(0, 1), 0);
        checks.due("done", machine.register(0, 2), 1);
        checks.dueState("behind", machine, Checks.STEPS, 3, Checks.PC, 20, Checks.NEXT, 24, Checks.ANNULLED, 0);

        WindowMachine never = Checks.program("bn 4,a", "ta %0,1", "add %1,1,%1");
        never.run(2);
        checks.dueState("bn,a goes on", never, Checks.PC, 8, Checks.NEXT, 12, Checks.ANNULLED, 0, Checks.HALTED, -1);

        WindowMachine taken = Checks.program("be 4,a", "add %1,1,%1");
        taken.mode(4, 0, 0, 0, 4);
        taken.run(2);
        checks.due("be,a that goes does what is behind", taken.register(0, 1), 1);
        checks.dueState("be,a", taken, Checks.PC, 16, Checks.NEXT, 20);

        WindowMachine edge = new WindowMachine();
        Checks.translate(edge, 1020, "ba -255,a");
        edge.start(1020);
        checks.due("what is passed over need not be in memory", edge.run(2), 2);
        checks.dueState("over the edge", edge, Checks.PC, 0, Checks.NEXT, 4, Checks.HALTED, -1, Checks.TRAPS, 0);
    }

    private static void delay() {
        WindowMachine machine = Checks.program("ba 4", "add %1,1,%1", "nop", "nop", "add %2,1,%2");
        machine.run(3);
        checks.due("the word behind is done first", machine.register(0, 1), 1);
        checks.due("then the one it goes to", machine.register(0, 2), 1);
        checks.due("PC", machine.state(Checks.PC), 20);

        WindowMachine couple = Checks.program("ba 4", "ba 8");
        couple.run(2);
        checks.dueState("a branch behind a branch", couple, Checks.PC, 16, Checks.NEXT, 36);

        WindowMachine far = Checks.program("ba -2097152");
        far.run(1);
        checks.due("the least number", far.state(Checks.NEXT), -8388608);
        Checks.translate(far, 0, "ba 2097151");
        far.start(0);
        far.run(1);
        checks.due("the greatest number", far.state(Checks.NEXT), 8388604);
        Checks.translate(far, 4, "nop");
        checks.due("outside", far.run(200), 2);
        checks.dueState("outside", far, Checks.HALTED, 1, Checks.PC, 8388604, Checks.NEXT, 8388608);
    }

    private static void calls() {
        WindowMachine machine = new WindowMachine();
        Checks.translate(machine, 20, "call 10");
        Checks.translate(machine, 24, "add %15,1,%1");
        machine.start(20);
        machine.mode(5, 6, 0, 0, 4);
        machine.run(1);
        checks.due("register 15", machine.register(0, 15), 20);
        checks.dueState("call", machine, Checks.PC, 24, Checks.NEXT, 60, Checks.WINDOW, 0, Checks.FLAGS, 5);
        machine.run(1);
        checks.due("what is behind sees it", machine.register(0, 1), 21);
        Checks.translate(machine, 20, "call -2");
        machine.start(20);
        machine.run(1);
        checks.due("back", machine.state(Checks.NEXT), 12);
        Checks.translate(machine, 20, "call 536870911");
        machine.start(20);
        machine.run(1);
        checks.due("the greatest number", machine.state(Checks.NEXT), 20 + 2147483644);
        Checks.translate(machine, 20, "call -536870912");
        machine.start(20);
        machine.run(1);
        checks.due("the least number", machine.state(Checks.NEXT), 20 + Integer.MIN_VALUE);
    }

    private static void jumps() {
        WindowMachine machine = new WindowMachine();
        Checks.translate(machine, 20, "jmpl %1,8,%2");
        machine.start(20);
        machine.set(0, 1, 100);
        machine.run(1);
        checks.due("rd is PC", machine.register(0, 2), 20);
        checks.dueState("jmpl", machine, Checks.PC, 24, Checks.NEXT, 108);

        Checks.translate(machine, 20, "jmpl %1,%1,%1");
        machine.start(20);
        machine.set(0, 1, 50);
        machine.run(1);
        checks.due("rd comes last", machine.register(0, 1), 20);
        checks.due("the target is reckoned before", machine.state(Checks.NEXT), 100);

        for (int rest = 1; rest < 4; rest++) {
            machine.start(20);
            machine.set(0, 1, 50);
            Checks.translate(machine, 20, "jmpl %1," + (50 + rest) + ",%2");
            machine.run(1);
            checks.dueState("no multiple of 4", machine, Checks.HALTED, 7, Checks.PC, 20, Checks.NEXT, 24);
            checks.due("rd stays", machine.register(0, 2), 0);
        }
        Checks.translate(machine, 20, "jmpl %0,-4,%0");
        machine.start(20);
        machine.run(1);
        checks.dueState("below 0", machine, Checks.HALTED, -1, Checks.NEXT, -4);
        Checks.translate(machine, 24, "nop");
        checks.due("it stops there", machine.run(5), 2);
        checks.dueState("below 0", machine, Checks.HALTED, 1, Checks.PC, -4, Checks.NEXT, 0);
    }

    private static void otherFormats() {
        for (int op2 = 0; op2 < 8; op2++) {
            WindowMachine machine = new WindowMachine();
            machine.put(0, 3 << 25 | op2 << 22 | 5);
            machine.run(1);
            checks.due("op 0, op2 " + op2, machine.state(Checks.HALTED), op2 == 2 || op2 == 4 ? -1 : 2);
            checks.due("op 0, op2 " + op2 + " rd", machine.register(0, 3), op2 == 4 ? 5120 : 0);
        }
    }
}

import java.lang.reflect.Field;

/** A STEP, what is passed over, and register 0. */
final class StepTest {
    private static final Checks checks = new Checks();

    public static void main(String[] args) throws ReflectiveOperationException {
        noMultipleOfFour();
        passedOver();
        annulledStays();
        annulledNotTwice();
        trapAnnulsNothing();
        registerZero();
        rdComesLast();
        distances();
        checks.end();
    }

    /**
     * "TRAP 7 if PC is no multiple of 4, else 1 if it is not in MEMORY": no run of calls gets PC there, as all
     * that sets it refuses such a number; so the field is set from outside.
     */
    private static void noMultipleOfFour() throws ReflectiveOperationException {
        Field processorField = WindowMachine.class.getDeclaredField("processor");
        processorField.setAccessible(true);
        for (int pc : new int[] {1, 2, 3, 1022, 1025, -1, -6, Integer.MAX_VALUE}) {
            WindowMachine machine = Checks.program("nop");
            Object processor = processorField.get(machine);
            Field pcField = processor.getClass().getDeclaredField("pc");
            pcField.setAccessible(true);
            pcField.setInt(processor, pc);
            machine.run(1);
            checks.dueState("PC " + pc, machine, Checks.HALTED, 7, Checks.PC, pc, Checks.TRAPS, 1);
        }
    }

    /** "the WORD at PC is passed over instead (that is a STEP, too)", whatever it is. */
    private static void passedOver() {
        String[] lines = {"add %1,1,%1", "addcc %0,0,%0", "ta %0,1", "call 9", "ba 9", "ba 9,a", "bn 9,a",
            "jmpl %0,64,%1", "save %0,1,%1", "restore %0,1,%1", "rett %0,64", "wrpsr %0,3", "wrwim %0,1", "wrtbr %0,-1",
            "wry %0,1", "st %0,%0,0", "ldstub %0,0,%1", "swap %0,0,%1", "udiv %0,%0,%1", "ld %0,1,%1"};
        for (String line : lines) {
            Twins twins = new Twins(() -> {
                WindowMachine machine = Checks.program("ba 16,a", line);
                machine.mode(9, 8, 0, 4096, 6);
                machine.run(1);
                return machine;
            });
            WindowMachine machine = twins.called;
            checks.dueState(line, machine, Checks.PC, 4, Checks.NEXT, 64, Checks.ANNULLED, 1, Checks.STEPS, 1);
            checks.due(line + ": run(1)", machine.run(1), 1);
            checks.dueState(line, machine, Checks.PC, 64, Checks.NEXT, 68, Checks.WINDOW, 0, Checks.FLAGS, 9,
                Checks.Y, 8, Checks.INVALID, 0, Checks.MODE, 6, Checks.BASE, 4096, Checks.HALTED, -1,
                Checks.STEPS, 2, Checks.TRAPS, 0, Checks.ANNULLED, 0);
            twins.dueSameMemory(checks, line);
            twins.dueSameRegisters(checks, line);
        }
        WindowMachine none = Checks.program("bn 9,a");
        none.run(2);
        checks.dueState("a word that is none", none, Checks.HALTED, -1, Checks.PC, 8, Checks.TRAPS, 0);
    }

    /** Only a step passes over; what other calls change is not said to. */
    private static void annulledStays() {
        WindowMachine machine = Checks.program("bn 9,a");
        Checks.translate(machine, 8, "add %1,%2,%3");
        machine.run(1);
        machine.mode(15, 1, 0, 4096, 7);
        Checks.translate(machine, 4, "ta %0,1");
        machine.set(0, 1, 5);
        machine.put(100, 5);
        checks.dueArgument("start(3)", () -> machine.start(3));
        checks.dueArgument("run(0)", () -> machine.run(0));
        checks.due("ANNULLED", machine.state(Checks.ANNULLED), 1);
        machine.run(2);
        checks.due("the word behind is done", machine.register(0, 3), 5);
        checks.dueState("the other one is not", machine, Checks.PC, 12, Checks.TRAPS, 0, Checks.ANNULLED, 0);
    }

    /** Just one word is passed over, and a branch that is passed over annuls none. */
    private static void annulledNotTwice() {
        WindowMachine machine = Checks.program("bn 9,a", "bn 9,a", "add %1,1,%1", "add %1,1,%1");
        machine.run(4);
        checks.due("both words behind are done", machine.register(0, 1), 2);
        WindowMachine couple = Checks.program("ba 3", "bn 9,a", "nop", "ta %0,1", "add %1,1,%1");
        couple.run(4);
        checks.dueState("the one it goes to is passed over", couple, Checks.PC, 20, Checks.HALTED, -1, Checks.TRAPS, 0);
        checks.due("the one behind that is done", couple.register(0, 1), 1);
    }

    /** "nothing is ANNULLED" */
    private static void trapAnnulsNothing() {
        WindowMachine machine = Checks.program("bn 9,a", "nop", "udiv %0,%0,%1");
        Checks.translate(machine, 672, "add %2,1,%2");
        machine.mode(0, 0, 0, 0, 5);
        machine.run(3);
        checks.dueState("trapped", machine, Checks.PC, 672, Checks.NEXT, 676, Checks.ANNULLED, 0, Checks.TRAPS, 1);
        machine.run(1);
        checks.due("its first word is done", machine.register(0, 2), 1);
    }

    /** "0 is 0 always": whatever comes to it. */
    private static void registerZero() {
        String[] lines = {"add %1,1,%0", "andcc %1,3,%0", "or %1,1,%0", "xnor %1,1,%0", "sub %1,1,%0", "addx %1,1,%0",
            "umul %1,1,%0", "smulcc %1,1,%0", "udiv %1,1,%0", "sdivcc %1,1,%0", "mulscc %1,2,%0", "sll %1,1,%0",
            "srl %1,1,%0", "sra %1,1,%0", "rdy %0", "rdpsr %0", "rdwim %0", "rdtbr %0", "jmpl %0,64,%0",
            "save %1,1,%0", "restore %1,1,%0", "sethi 5,%0", "ld %0,512,%0", "ldub %0,512,%0", "lduh %0,512,%0",
            "ldd %0,512,%0", "ldsb %0,512,%0", "ldsh %0,512,%0", "ldstub %0,512,%0", "swap %0,512,%0"};
        for (String line : lines) {
            WindowMachine machine = new WindowMachine();
            Checks.translate(machine, 4, line);
            machine.put(512, 0x77777777);
            machine.put(516, 0x66666666);
            machine.start(4);
            machine.set(0, 1, 7);
            machine.mode(0, 3, 4, 4096, 4);
            machine.run(1);
            checks.due(line + " halts", machine.state(Checks.HALTED), -1);
            for (int w = 0; w < 4; w++) {
                checks.due(line + ": register(" + w + ", 0)", machine.register(w, 0), 0);
            }
        }
        WindowMachine machine = Checks.program("add %0,5,%0", "add %0,%0,%1", "st %0,%0,512", "swap %0,516,%0");
        machine.put(512, 9);
        machine.put(516, 9);
        machine.set(0, 0, 9);
        machine.set(0, 1, 9);
        machine.run(4);
        checks.due("a sum of it", machine.register(0, 1), 0);
        checks.due("stored", machine.word(512), 0);
        checks.due("swapped", machine.word(516), 0);
    }

    /** "What comes to rd comes there last." */
    private static void rdComesLast() {
        WindowMachine machine = Checks.program("subcc %1,%1,%1", "ld %2,0,%2", "ldd %4,%5,%4", "swap %6,0,%6",
            "ldstub %7,0,%7", "save %8,%9,%8", "restore %8,%8,%24");
        machine.put(512, 1000);
        machine.put(516, 1001);
        machine.put(520, 1002);
        machine.put(524, 0x05000000);
        for (int r = 1; r < 10; r++) {
            machine.set(0, r, new int[] {0, 7, 512, 0, 500, 12, 520, 524, 3, 4}[r]);
        }
        machine.run(6);
        checks.due("subcc", machine.register(0, 1), 0);
        checks.due("ld", machine.register(0, 2), 1000);
        checks.due("ldd", machine.register(0, 4), 1000);
        checks.due("ldd, the next one", machine.register(0, 5), 1001);
        checks.due("swap", machine.register(0, 6), 1002);
        checks.due("swap, the word", machine.word(520), 520);
        checks.due("ldstub", machine.register(0, 7), 5);
        checks.due("ldstub, the octet", machine.word(524), 0xFF000000);
        checks.due("save", machine.register(3, 8), 7);
        checks.due("save, the old window", machine.register(0, 8), 3);
        machine.run(1);
        checks.due("restore", machine.register(0, 24), 14);
        checks.due("restore, the old window", machine.register(3, 24), 3);
    }

    /** The shortest ways: to itself, and to the word that comes next anyhow. */
    private static void distances() {
        int[][] rows = {{0, 100}, {1, 104}, {2, 108}, {-1, 96}, {-25, 0}, {-26, -4}, {230, 1020}, {231, 1024}};
        for (int[] row : rows) {
            for (String name : new String[] {"ba", "call", "be"}) {
                WindowMachine machine = new WindowMachine();
                Checks.translate(machine, 100, name + " " + row[0]);
                machine.start(100);
                machine.mode(4, 0, 0, 0, 4);
                machine.run(1);
                checks.dueState(name + " " + row[0], machine, Checks.PC, 104, Checks.NEXT, row[1], Checks.ANNULLED, 0);
            }
        }
    }
}

/** How much one object is promised for, how far one run goes, and how often things are counted. */
final class LimitsTest {
    private static final Checks checks = new Checks();
    private static final int NOP = 0x01000000;
    private static final int CALLS = 512;

    public static void main(String[] args) {
        runsToTheLastCall();
        linesToTheLastCall();
        refusedToTheLastCall();
        trapsToTheLastCall();
        haltingAtEachStep();
        theWholeMemory();
        checks.end();
    }

    /** "An object is used for at most 512 calls after it has been made" */
    private static void runsToTheLastCall() {
        WindowMachine machine = new WindowMachine();
        machine.put(0, 0x30800000);
        for (int k = 2; k < CALLS; k++) {
            checks.due("run(200), call " + k, machine.run(200), 200);
        }
        checks.due("STEPS, call 512", machine.state(Checks.STEPS), 200 * (CALLS - 2));
    }

    private static void linesToTheLastCall() {
        WindowMachine machine = new WindowMachine();
        for (int k = 1; k <= CALLS; k += 2) {
            checks.due("letters, call " + k, machine.letters(Checks.octets("nop")), 3);
            checks.due("assemble, call " + (k + 1), machine.assemble(2 * (k - 1) % 1024), NOP);
        }
    }

    private static void refusedToTheLastCall() {
        WindowMachine machine = new WindowMachine();
        for (int k = 1; k < CALLS; k++) {
            checks.dueArgument("an empty line, call " + k, () -> machine.assemble(0));
        }
        checks.due("place(), call 512", machine.place(), 0);
    }

    /** Each udiv traps to 672, from where rett comes back to it with traps on. */
    private static void trapsToTheLastCall() {
        WindowMachine machine = Checks.program("udiv %0,%0,%1");
        Checks.translate(machine, 672, "jmpl %17,0,%0");
        Checks.translate(machine, 676, "rett %18,0");
        machine.mode(0, 0, 0, 0, 1);
        for (int k = 11; k < CALLS - 1; k++) {
            checks.due("run(198), call " + k, machine.run(198), 198);
        }
        checks.due("STEPS, call 511", machine.state(Checks.STEPS), 198 * (CALLS - 12));
        checks.due("TRAPS, call 512", machine.state(Checks.TRAPS), 66 * (CALLS - 12));
    }

    /** "Up to n (1..200) STEPS, until it HALTS: how many." */
    private static void haltingAtEachStep() {
        for (int nops = 0; nops <= 200; nops++) {
            WindowMachine machine = new WindowMachine();
            for (int k = 0; k < nops; k++) {
                machine.put(4 * k, NOP);
            }
            int steps = Math.min(200, nops + 1);
            boolean halts = nops < 200;
            checks.due("run(200) of " + nops + " words and a trap", machine.run(200), steps);
            checks.dueState(nops + " words and a trap", machine, Checks.STEPS, steps, Checks.HALTED, halts ? 2 : -1,
                Checks.TRAPS, halts ? 1 : 0, Checks.PC, 4 * nops, Checks.NEXT, 4 * nops + 4);
            if (nops > 0) {
                machine.start(0);
                checks.due("run(" + nops + ") of it", machine.run(nops), nops);
                checks.dueState("run(" + nops + ") of it", machine, Checks.STEPS, nops, Checks.HALTED, -1);
                checks.due("one more", machine.run(1), 1);
                checks.dueState("one more", machine, Checks.STEPS, nops + 1, Checks.HALTED, 2);
            }
        }
    }

    /** "MEMORY: 1024 octets": the last word is done, and there is none behind it. */
    private static void theWholeMemory() {
        WindowMachine machine = new WindowMachine();
        for (int a = 0; a < 1024; a += 4) {
            machine.put(a, NOP);
        }
        checks.due("200", machine.run(200), 200);
        checks.due("56 and the one that is not there", machine.run(200), 57);
        checks.dueState("behind the last", machine, Checks.HALTED, 1, Checks.PC, 1024, Checks.NEXT, 1028,
            Checks.STEPS, 257, Checks.TRAPS, 1);
        checks.due("start tells it", machine.start(1020), 1);
        checks.due("from the last", machine.run(200), 2);
    }
}

/**
 * Two machines with the same calls behind them: what a call did to the one shows as a difference from the
 * other. All that can be seen takes 396 calls of the 512 that an object is promised for.
 */
final class Twins {
    interface Maker {
        WindowMachine make();
    }

    final WindowMachine called;
    final WindowMachine spared;

    Twins(Maker maker) {
        called = maker.make();
        spared = maker.make();
    }

    static Twins running() {
        return new Twins(() -> farFromReset(false));
    }

    static Twins halted() {
        return new Twins(() -> farFromReset(true));
    }

    /** Nothing of the state is as RESET leaves it, the line is "nop", and place() is 3. */
    private static WindowMachine farFromReset(boolean halted) {
        WindowMachine machine = Checks.program("udiv %0,%0,%1");
        Checks.translate(machine, 672, "wrpsr %0,130");
        Checks.translate(machine, 676, "bne 9,a");
        machine.put(1020, -7);
        machine.mode(0, 0, 0, 0, 5);
        machine.run(2);
        for (int w = 0; w < 4; w++) {
            machine.set(w, 8, 80 + w);
            machine.set(w, 23, 230 + w);
        }
        machine.set(0, 1, 11);
        machine.mode(6, -5, 9, 8192, halted ? 2 : 3);
        machine.run(1);
        if (halted) {
            machine.run(2);
        }
        Checks.type(machine, "add");
        try {
            machine.assemble(0);
        } catch (IllegalArgumentException e) {
            Checks.type(machine, "nop");
        }
        return machine;
    }

    /** The whole state is the same, and memory and registers. */
    void dueSame(Checks checks, String what) {
        for (int k = 0; k <= Checks.ANNULLED; k++) {
            checks.due(what + ": state(" + k + ")", called.state(k), spared.state(k));
        }
        dueSameMemory(checks, what);
        dueSameRegisters(checks, what);
    }

    void dueSameMemory(Checks checks, String what) {
        for (int a = 0; a < 1024; a += 4) {
            checks.due(what + ": word(" + a + ")", called.word(a), spared.word(a));
        }
    }

    void dueSameRegisters(Checks checks, String what) {
        for (int w = 0; w < 4; w++) {
            for (int r = 0; r < 32; r++) {
                checks.due(what + ": register(" + w + ", " + r + ")", called.register(w, r), spared.register(w, r));
            }
        }
    }

    /** Of those that are far from RESET. */
    void dueSameLine(Checks checks, String what) {
        checks.due(what + ": place()", called.place(), 3);
        checks.due(what + ": the line", called.assemble(0), 0x01000000);
    }
}

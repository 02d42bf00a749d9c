/** Op 3: loads, stores, ldstub and swap. */
final class AccessTest {
    private static final Checks checks = new Checks();

    public static void main(String[] args) {
        loads();
        stores();
        exchanges();
        order();
        edges();
        noInstruction();
        ownWords();
        checks.end();
    }

    private static WindowMachine prepared(String line) {
        WindowMachine machine = Checks.program(line);
        machine.put(512, 0x81C2F304);
        machine.put(516, 0x01020384);
        machine.put(1020, 0x7F80FF01);
        machine.set(0, 1, 512);
        machine.set(0, 2, 0xA1B2C3D4);
        machine.set(0, 3, 0x11223344);
        machine.mode(13, 6, 0, 0, 4);
        machine.run(1);
        return machine;
    }

    private static void dueLoad(String line, int want) {
        WindowMachine machine = prepared(line);
        checks.due(line, machine.register(0, 4), want);
        checks.due(line + " leaves memory", machine.word(512), 0x81C2F304);
        checks.dueState(line, machine, Checks.HALTED, -1, Checks.FLAGS, 13, Checks.Y, 6, Checks.PC, 4);
    }

    private static void loads() {
        dueLoad("ld %1,0,%4", 0x81C2F304);
        dueLoad("ld %1,4,%4", 0x01020384);
        dueLoad("ld %0,1020,%4", 0x7F80FF01);
        dueLoad("ldub %1,0,%4", 0x81);
        dueLoad("ldub %1,1,%4", 0xC2);
        dueLoad("ldub %1,2,%4", 0xF3);
        dueLoad("ldub %1,3,%4", 4);
        dueLoad("ldub %0,1023,%4", 1);
        dueLoad("ldsb %1,0,%4", -127);
        dueLoad("ldsb %1,1,%4", -62);
        dueLoad("ldsb %1,3,%4", 4);
        dueLoad("ldsb %0,1020,%4", 127);
        dueLoad("lduh %1,0,%4", 0x81C2);
        dueLoad("lduh %1,2,%4", 0xF304);
        dueLoad("lduh %0,1022,%4", 0xFF01);
        dueLoad("ldsh %1,0,%4", 0xFFFF81C2);
        dueLoad("ldsh %1,2,%4", 0xFFFFF304);
        dueLoad("ldsh %0,1020,%4", 0x7F80);
        dueLoad("ldd %1,0,%4", 0x81C2F304);
        checks.due("ldd: the next one", prepared("ldd %1,0,%4").register(0, 5), 0x01020384);
        checks.due("ldd: at the end", prepared("ldd %0,1016,%4").register(0, 5), 0x7F80FF01);
        checks.due("ldd to %30", prepared("ldd %1,0,%30").register(1, 15), 0x01020384);
        WindowMachine zero = prepared("ldd %1,0,%0");
        checks.due("ldd to %0", zero.register(0, 0), 0);
        checks.due("ldd to %0 and its base", zero.register(0, 1), 0x01020384);
    }

    private static void dueStore(String line, int first, int second) {
        WindowMachine machine = prepared(line);
        checks.due(line + ": word(512)", machine.word(512), first);
        checks.due(line + ": word(516)", machine.word(516), second);
        checks.due(line + ": rd stays", machine.register(0, 2), 0xA1B2C3D4);
        checks.dueState(line, machine, Checks.HALTED, -1, Checks.FLAGS, 13);
    }

    private static void stores() {
        dueStore("st %2,%1,0", 0xA1B2C3D4, 0x01020384);
        dueStore("st %2,%1,4", 0x81C2F304, 0xA1B2C3D4);
        dueStore("stb %2,%1,0", 0xD4C2F304, 0x01020384);
        dueStore("stb %2,%1,1", 0x81D4F304, 0x01020384);
        dueStore("stb %2,%1,2", 0x81C2D404, 0x01020384);
        dueStore("stb %2,%1,3", 0x81C2F3D4, 0x01020384);
        dueStore("sth %2,%1,0", 0xC3D4F304, 0x01020384);
        dueStore("sth %2,%1,2", 0x81C2C3D4, 0x01020384);
        dueStore("std %2,%1,0", 0xA1B2C3D4, 0x11223344);
        dueStore("std %2,%1,%0", 0xA1B2C3D4, 0x11223344);
        dueStore("std %0,%1,%0", 0, 512);
        dueStore("st %0,%1,0", 0, 0x01020384);
        checks.due("std at the end", prepared("std %2,%0,1016").word(1020), 0x11223344);
    }

    private static void exchanges() {
        WindowMachine machine = prepared("swap %1,0,%2");
        checks.due("swap: word", machine.word(512), 0xA1B2C3D4);
        checks.due("swap: rd", machine.register(0, 2), 0x81C2F304);
        machine = prepared("swap %1,%0,%1");
        checks.due("swap with its base: word", machine.word(512), 512);
        checks.due("swap with its base: rd", machine.register(0, 1), 0x81C2F304);
        machine = prepared("ldstub %1,1,%2");
        checks.due("ldstub: word", machine.word(512), 0x81FFF304);
        checks.due("ldstub: rd", machine.register(0, 2), 0xC2);
        machine = prepared("ldstub %1,0,%0");
        checks.due("ldstub to %0: word", machine.word(512), 0xFFC2F304);
        checks.due("ldstub to %0", machine.register(0, 0), 0);
    }

    private static void dueTrap(String line, int want) {
        WindowMachine machine = prepared(line);
        checks.dueState(line, machine, Checks.HALTED, want, Checks.PC, 0, Checks.NEXT, 4);
        checks.due(line + ": %2", machine.register(0, 2), 0xA1B2C3D4);
        checks.due(line + ": %3", machine.register(0, 3), 0x11223344);
        checks.due(line + ": word(512)", machine.word(512), 0x81C2F304);
        checks.due(line + ": word(516)", machine.word(516), 0x01020384);
        checks.due(line + ": word(1020)", machine.word(1020), 0x7F80FF01);
    }

    private static void order() {
        String[] words = {"ld %1,N,%2", "st %2,%1,N", "swap %1,N,%2"};
        String[] halves = {"lduh %1,N,%2", "ldsh %1,N,%2", "sth %2,%1,N"};
        String[] octets = {"ldub %1,N,%2", "ldsb %1,N,%2", "stb %2,%1,N", "ldstub %1,N,%2"};
        String[] pairs = {"ldd %1,N,%2", "std %2,%1,N"};
        dueTraps(words, 7, 1, 2, 3, 511, 513, -513, 4001);
        dueTraps(words, 9, 512, -516, 4000, -4096);
        dueTraps(halves, 7, 1, 3, 511, 513, -513);
        dueTraps(halves, 9, 512, -514, 4000);
        dueTraps(octets, 9, 512, 513, -513, 4095, -4096);
        dueTraps(pairs, 7, 1, 2, 4, 508, 516, -516, 4004);
        dueTraps(pairs, 9, 512, -520, 4000);
        dueTraps(new String[] {"ldd %1,N,%3", "std %3,%1,N"}, 2, 0, 1, 4, 512, 513);

        WindowMachine machine = Checks.program("ld %1,%2,%3");
        machine.set(0, 1, Integer.MAX_VALUE);
        machine.set(0, 2, 5);
        machine.run(1);
        checks.due("the sum wraps", machine.state(Checks.HALTED), 9);
        machine = Checks.program("ldub %1,%2,%3");
        machine.put(4, 0x55000000);
        machine.set(0, 1, Integer.MIN_VALUE);
        machine.set(0, 2, Integer.MIN_VALUE + 4);
        machine.run(1);
        checks.due("the sum wraps into memory", machine.register(0, 3), 0x55);
    }

    /**
     * "Of 2, 4, 8 octets: TRAP 7 if it is no multiple; ldd, std with an odd rd: TRAP 2 (before that); not all in
     * MEMORY: TRAP 9": each kind round both ends of memory, and of the ints.
     */
    private static void edges() {
        int[] octets = {4, 1, 2, 8, 4, 1, 2, 8, 0, 1, 2, 0, 0, 1, 0, 4};
        for (int op3 = 0; op3 < 16; op3++) {
            if (octets[op3] == 0) {
                continue;
            }
            for (int middle : new int[] {0, 1024, 512, Integer.MIN_VALUE, 65536}) {
                WindowMachine machine = new WindowMachine();
                for (int rd = 2; rd < 4; rd++) {
                    machine.put(256, 3 << 30 | rd << 25 | op3 << 19 | 4 << 14);
                    for (int near = -10; near <= 10; near++) {
                        dueEdge(machine, rd, middle + near, octets[op3]);
                    }
                }
            }
        }
    }

    private static void dueEdge(WindowMachine machine, int rd, int address, int octets) {
        int want = -1;
        if (octets == 8 && rd % 2 == 1) {
            want = 2;
        } else if (address % octets != 0) {
            want = 7;
        } else if (address < 0 || address > 1023) {
            want = 9;
        }
        machine.start(256);
        machine.set(0, 4, address);
        machine.run(1);
        checks.due(octets + " octets at " + address + ", rd " + rd, machine.state(Checks.HALTED), want);
    }

    private static void dueTraps(String[] lines, int want, int... numbers) {
        for (String line : lines) {
            for (int number : numbers) {
                dueTrap(line.replace("N", String.valueOf(number)), want);
            }
        }
    }

    private static void noInstruction() {
        for (int op3 = 0; op3 < 64; op3++) {
            WindowMachine machine = new WindowMachine();
            machine.put(0, 3 << 30 | 2 << 25 | op3 << 19 | 1 << 13 | 512);
            machine.run(1);
            boolean isThere = op3 < 8 || op3 == 9 || op3 == 10 || op3 == 13 || op3 == 15;
            checks.due("op 3, op3 " + op3, machine.state(Checks.HALTED), isThere ? -1 : 2);
        }
    }

    private static void ownWords() {
        WindowMachine machine = Checks.program("st %1,%0,8", "nop", "ta %0,1");
        machine.set(0, 1, 0x84102007);
        machine.run(3);
        checks.due("a stored word is done", machine.register(0, 2), 7);
        checks.due("it did not trap", machine.state(Checks.HALTED), -1);
    }
}

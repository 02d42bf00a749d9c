/**
 * "Of several exceptions of a call the one named first in its heading is thrown; a call that throws changes
 * nothing, but as said there": each exception of each call, on a machine with a twin that was not called.
 */
final class RefusedCallsTest {
    private static final Checks checks = new Checks();
    private static final Class<? extends RuntimeException> ARGUMENT = IllegalArgumentException.class;
    private static final Class<? extends RuntimeException> INDEX = IndexOutOfBoundsException.class;
    private static final Class<? extends RuntimeException> STATE = IllegalStateException.class;
    private static final int MIN = Integer.MIN_VALUE;
    private static final int MAX = Integer.MAX_VALUE;
    private static final int[] NO_WORD_AT =
        {-4, -3, -2, -1, 1, 2, 3, 1021, 1022, 1023, 1024, 1025, 1028, 2048, MIN, MIN + 4, MAX, MAX - 3};

    /** A call of one of several machines. */
    private interface CallOf {
        int answer(WindowMachine machine);
    }

    public static void main(String[] args) {
        twinsAreFarFromReset();
        letters();
        lettersOfAFullLine();
        assembleWithoutAnInstruction();
        assembleWithoutAnAddress();
        putAndWord();
        run();
        start();
        setAndRegister();
        state();
        mode();
        checks.end();
    }

    private static void refused(String what, Class<? extends RuntimeException> want, CallOf call) {
        refusedBy(Twins.running(), what, want, call);
        refusedBy(Twins.halted(), what + " (halted)", want, call);
    }

    private static void refusedBy(Twins twins, String what, Class<? extends RuntimeException> want, CallOf call) {
        checks.dueThrow(what, want, () -> call.answer(twins.called));
        twins.dueSame(checks, what);
        twins.dueSameLine(checks, what);
    }

    /** Or else the twins would show too little. */
    private static void twinsAreFarFromReset() {
        checks.dueState("running", Twins.running().called, Checks.PC, 680, Checks.NEXT, 684, Checks.WINDOW, 2,
            Checks.FLAGS, 6, Checks.Y, -5, Checks.INVALID, 9, Checks.MODE, 3, Checks.BASE, 8192,
            Checks.HALTED, -1, Checks.STEPS, 3, Checks.TRAPS, 1, Checks.ANNULLED, 1);
        checks.dueState("halted", Twins.halted().called, Checks.PC, 684, Checks.NEXT, 688, Checks.WINDOW, 2,
            Checks.FLAGS, 6, Checks.Y, -5, Checks.INVALID, 9, Checks.MODE, 2, Checks.BASE, 8192,
            Checks.HALTED, 2, Checks.STEPS, 5, Checks.TRAPS, 2, Checks.ANNULLED, 0);
    }

    /** "the lowest is 0, or one before the first 0 is no LETTER" */
    private static void letters() {
        long[] wrong = {0, 0x6100, 0xFF00, 1, 31, 127, 128, 255, 0x1F61, 0x7F61, 0x8061, -1, Long.MIN_VALUE,
            Long.MAX_VALUE, 0x1F61616161616161L, 0x7F61616161616161L, 0xFF61616161616161L, 0x617F616161616161L};
        for (long w : wrong) {
            refused("letters(" + w + ")", ARGUMENT, machine -> machine.letters(w));
        }
    }

    /** "there would be more than 40", and the order of both exceptions. */
    private static void lettersOfAFullLine() {
        for (int count = 33; count <= 40; count++) {
            WindowMachine machine = new WindowMachine();
            Checks.type(machine, "nop" + " ".repeat(count - 3));
            String tooMany = "aaaaaaaa".substring(0, 41 - count);
            String what = count + " letters, and " + tooMany.length() + " more";
            checks.dueThrow(what, INDEX, () -> machine.letters(Checks.octets(tooMany)));
            checks.dueThrow(what + ", one of them none", ARGUMENT,
                () -> machine.letters(Checks.octets(tooMany.substring(1) + (char) 127)));
            checks.dueThrow(what + " behind a 0", ARGUMENT, () -> machine.letters(Checks.octets(tooMany) << 8));
            if (count < 40) {
                checks.due(what + ": one less", machine.letters(Checks.octets(tooMany.substring(1))), 40);
            }
            checks.dueThrow(what + ": one more then", INDEX, () -> machine.letters('a'));
            checks.dueThrow(what + ": the line", ARGUMENT, () -> machine.assemble(0));
            checks.due(what + ": its place", machine.place(), 3);
        }
    }

    /** "the LINE is empty then, whatever comes": nothing else but place() is changed. */
    private static void assembleWithoutAnInstruction() {
        for (int a : new int[] {0, 1020, 1022, 1024, -4, MIN, MAX}) {
            for (Twins twins : new Twins[] {Twins.running(), Twins.halted()}) {
                String what = "assemble(" + a + ") of no instruction";
                Checks.type(twins.called, ",x");
                checks.dueThrow(what, ARGUMENT, () -> twins.called.assemble(a));
                twins.dueSame(checks, what);
                checks.due(what + ": place()", twins.called.place(), 3);
                checks.due(what + ": the line is empty", twins.called.letters('x'), 1);
            }
        }
    }

    private static void assembleWithoutAnAddress() {
        for (int a : NO_WORD_AT) {
            for (Twins twins : new Twins[] {Twins.running(), Twins.halted()}) {
                String what = "assemble(" + a + ")";
                checks.dueThrow(what, INDEX, () -> twins.called.assemble(a));
                twins.dueSame(checks, what);
                checks.due(what + ": the line was good", twins.called.place(), -1);
                checks.due(what + ": the line is empty", twins.called.letters('x'), 1);
            }
        }
    }

    private static void putAndWord() {
        for (int a : NO_WORD_AT) {
            refused("put(" + a + ")", INDEX, machine -> machine.put(a, 12345));
            refused("word(" + a + ")", INDEX, machine -> machine.word(a));
        }
    }

    /** "IllegalArgumentException: n. IllegalStateException: it HALTED before the first." */
    private static void run() {
        for (int n : new int[] {0, -1, -200, 201, 202, 256, MIN, MAX}) {
            refused("run(" + n + ")", ARGUMENT, machine -> machine.run(n));
        }
        for (int n : new int[] {1, 2, 199, 200}) {
            refusedBy(Twins.halted(), "run(" + n + ") of a halted one", STATE, machine -> machine.run(n));
        }
    }

    private static void start() {
        for (int a : NO_WORD_AT) {
            refused("start(" + a + ")", ARGUMENT, machine -> machine.start(a));
        }
    }

    /** "r is not 0..31, or w not 0..3" */
    private static void setAndRegister() {
        int[][] wrong = {{0, -1}, {0, 32}, {3, -1}, {3, 32}, {-1, 0}, {4, 0}, {-1, 31}, {4, 31}, {-1, -1}, {4, 32},
            {0, MIN}, {0, MAX}, {MIN, 8}, {MAX, 8}, {1, -8}, {-1, 24}, {4, 8}};
        for (int[] pair : wrong) {
            String what = "(" + pair[0] + ", " + pair[1] + ")";
            refused("set" + what, ARGUMENT, machine -> machine.set(pair[0], pair[1], 12345));
            refused("register" + what, ARGUMENT, machine -> machine.register(pair[0], pair[1]));
        }
    }

    private static void state() {
        for (int what : new int[] {-1, 12, 13, -12, MIN, MAX}) {
            refused("state(" + what + ")", ARGUMENT, machine -> machine.state(what));
        }
    }

    /** "flags or invalid is not 0..15, or mode not 0..7" */
    private static void mode() {
        int[][] wrong = {{-1, 0, 0}, {16, 0, 0}, {0, -1, 0}, {0, 16, 0}, {0, 0, -1}, {0, 0, 8}, {15, 15, 8},
            {15, 16, 7}, {16, 15, 7}, {MIN, 0, 0}, {MAX, 0, 0}, {0, MIN, 0}, {0, MAX, 0}, {0, 0, MIN}, {0, 0, MAX}};
        for (int[] row : wrong) {
            refused("mode(" + row[0] + ", 77, " + row[1] + ", 4096, " + row[2] + ")", ARGUMENT,
                machine -> machine.mode(row[0], 77, row[1], 4096, row[2]));
        }
    }
}

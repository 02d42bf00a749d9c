/** Each call that is not refused, at its edges, does what its promise says and leaves all else as a twin has it. */
final class AcceptedCallsTest {
    private static final Checks checks = new Checks();
    private static final int NOP = 0x01000000;
    private static final int MIN = Integer.MIN_VALUE;
    private static final int MAX = Integer.MAX_VALUE;

    public static void main(String[] args) {
        letters();
        assemble();
        put();
        run();
        start();
        set();
        mode();
        modeWindow();
        lookingChangesNothing();
        checks.end();
    }

    private static Twins[] both() {
        return new Twins[] {Twins.running(), Twins.halted()};
    }

    /** Promise 2, from one letter up to the fortieth. */
    private static void letters() {
        for (Twins twins : both()) {
            checks.due("one more", twins.called.letters(' '), 4);
            checks.due("eight more", twins.called.letters(Checks.octets("~~~~~~~~")), 12);
            for (int k = 20; k <= 36; k += 8) {
                checks.due("eight more", twins.called.letters(Checks.octets("        ")), k);
            }
            checks.due("up to 40", twins.called.letters(Checks.octets("abcd")), 40);
            twins.dueSame(checks, "letters");
            checks.due("letters: place()", twins.called.place(), 3);
        }
    }

    /** Promise 3, at the first and the last word. */
    private static void assemble() {
        for (int a : new int[] {0, 4, 1016, 1020}) {
            for (Twins twins : both()) {
                String what = "assemble(" + a + ")";
                checks.due(what, twins.called.assemble(a), NOP);
                checks.due(what + ": the word", twins.called.put(a, twins.spared.word(a)), NOP);
                twins.dueSame(checks, what);
                checks.due(what + ": place()", twins.called.place(), -1);
                checks.due(what + ": the line is empty", twins.called.letters('x'), 1);
            }
        }
    }

    /** Promise 5, at the first and the last word, with the least and the greatest number. */
    private static void put() {
        for (int a : new int[] {0, 4, 1016, 1020}) {
            for (int v : new int[] {MIN, MAX, 0, -1, 0x80000001}) {
                Twins twins = Twins.running();
                String what = "put(" + a + ", " + v + ")";
                int before = twins.spared.word(a);
                checks.due(what, twins.called.put(a, v), before);
                checks.due(what + " and back", twins.called.put(a, before), v);
                twins.dueSame(checks, what);
                twins.dueSameLine(checks, what);
            }
        }
    }

    /** Promise 7: running does not touch the line, nor what place() tells. */
    private static void run() {
        Twins twins = Twins.running();
        checks.due("run(1)", twins.called.run(1), 1);
        checks.dueState("run(1)", twins.called, Checks.PC, 684, Checks.NEXT, 688, Checks.STEPS, 4, Checks.TRAPS, 1,
            Checks.ANNULLED, 0, Checks.HALTED, -1, Checks.WINDOW, 2, Checks.MODE, 3);
        twins.dueSameMemory(checks, "run(1)");
        twins.dueSameLine(checks, "run(1)");
    }

    /** Promises 8 and 13: "MEMORY and the LINE stay", "and place() tells what it told". */
    private static void start() {
        for (int a : new int[] {0, 4, 1016, 1020}) {
            for (Twins twins : both()) {
                String what = "start(" + a + ")";
                WindowMachine machine = twins.called;
                checks.due(what, machine.start(a), twins.spared.state(Checks.HALTED));
                checks.dueState(what, machine, Checks.PC, a, Checks.NEXT, a + 4, Checks.WINDOW, 0, Checks.FLAGS, 0,
                    Checks.Y, 0, Checks.INVALID, 0, Checks.MODE, 4, Checks.BASE, 0, Checks.HALTED, -1,
                    Checks.STEPS, 0, Checks.TRAPS, 0, Checks.ANNULLED, 0);
                for (int w = 0; w < 4; w++) {
                    for (int r = 0; r < 32; r++) {
                        checks.due(what + ": register(" + w + ", " + r + ")", machine.register(w, r), 0);
                    }
                }
                twins.dueSameMemory(checks, what);
                twins.dueSameLine(checks, what);
                checks.due(what + " again", machine.start(a), -1);
            }
        }
    }

    /** Promises 9 and 10: each register of each window, and its other name where it has one. */
    private static void set() {
        for (int w = 0; w < 4; w++) {
            for (int r = 0; r < 32; r++) {
                Twins twins = Twins.halted();
                String what = "set(" + w + ", " + r + ", MIN)";
                int before = twins.spared.register(w, r);
                checks.due(what, twins.called.set(w, r, MIN), before);
                checks.due(what + ": register", twins.called.register(w, r), r == 0 ? 0 : MIN);
                checks.due(what + " and back", twins.called.set(w, r, before), r == 0 ? 0 : MIN);
                twins.dueSame(checks, what);
                twins.dueSameLine(checks, what);
            }
        }
    }

    /** Promise 12: "BASE (its lowest 12 bits 0)", and each of the others from 0 to its greatest. */
    private static void mode() {
        int[][] rows = {{0, 0}, {1, 0}, {4095, 0}, {4096, 4096}, {4097, 4096}, {8191, 4096}, {-1, -4096}, {MIN, MIN},
            {MIN + 4095, MIN}, {MAX, MAX - 4095}, {-4096, -4096}, {-4097, -8192}};
        for (int[] row : rows) {
            for (int k : new int[] {0, 15}) {
                for (Twins twins : both()) {
                    String what = "mode(" + k + ", " + row[0] + ", " + (15 - k) + ", " + row[0] + ", " + k / 2 + ")";
                    checks.due(what, twins.called.mode(k, row[0], 15 - k, row[0], k / 2), 2);
                    checks.dueState(what, twins.called, Checks.FLAGS, k, Checks.Y, row[0], Checks.INVALID, 15 - k,
                        Checks.BASE, row[1], Checks.MODE, k / 2);
                    int modeBefore = twins.spared.state(Checks.MODE);
                    checks.due(what + " and back", twins.called.mode(6, -5, 9, 8192, modeBefore), 2);
                    twins.dueSame(checks, what);
                    twins.dueSameLine(checks, what);
                }
            }
        }
    }

    /** "W before": each one. */
    private static void modeWindow() {
        for (int window = 0; window < 4; window++) {
            WindowMachine machine = Checks.program("wrpsr %0," + (128 + window));
            machine.run(1);
            checks.due("mode in " + window, machine.mode(1, 2, 15, 4, 5), window);
            checks.due("W", machine.state(Checks.WINDOW), window);
        }
    }

    private static void lookingChangesNothing() {
        for (Twins twins : both()) {
            WindowMachine machine = twins.called;
            checks.due("word(0)", machine.word(0), twins.spared.word(0));
            checks.due("word(1020)", machine.word(1020), -7);
            checks.due("register(0, 0)", machine.register(0, 0), 0);
            checks.due("register(3, 31)", machine.register(3, 31), 0);
            checks.due("place()", machine.place(), 3);
            twins.dueSame(checks, "looking");
            twins.dueSameLine(checks, "looking");
        }
    }
}

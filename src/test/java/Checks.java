/** What all tests share: comparing, counting what is wrong, and handing lines of text to a machine. */
final class Checks {
    interface Call {
        int answer();
    }

    static final int PC = 0;
    static final int NEXT = 1;
    static final int WINDOW = 2;
    static final int FLAGS = 3;
    static final int Y = 4;
    static final int INVALID = 5;
    static final int MODE = 6;
    static final int BASE = 7;
    static final int HALTED = 8;
    static final int STEPS = 9;
    static final int TRAPS = 10;
    static final int ANNULLED = 11;

    private int wrong = 0;
    private int all = 0;

    void due(String what, long got, long want) {
        all++;
        if (got != want) {
            wrong++;
            System.out.println(what + " answered " + got + ", due is " + want);
        }
    }

    void dueThrow(String what, Class<? extends RuntimeException> want, Call call) {
        all++;
        String got;
        try {
            got = String.valueOf(call.answer());
        } catch (RuntimeException e) {
            if (e.getClass() == want) {
                return;
            }
            got = e.getClass().getName();
        }
        wrong++;
        System.out.println(what + " answered " + got + ", due is " + want.getName());
    }

    void dueArgument(String what, Call call) {
        dueThrow(what, IllegalArgumentException.class, call);
    }

    void dueIndex(String what, Call call) {
        dueThrow(what, IndexOutOfBoundsException.class, call);
    }

    /** Some parts of the state, as pairs: which one, and what is due there. */
    void dueState(String what, WindowMachine machine, int... pairs) {
        for (int k = 0; k < pairs.length; k += 2) {
            due(what + ": state(" + pairs[k] + ")", machine.state(pairs[k]), pairs[k + 1]);
        }
    }

    void end() {
        System.out.println(all + " checks, " + wrong + " wrong");
        if (wrong != 0) {
            System.exit(1);
        }
    }

    /** Up to eight letters as the octets of a long. */
    static long octets(String text) {
        long octets = 0;
        for (int k = text.length() - 1; k >= 0; k--) {
            octets = octets << 8 | text.charAt(k);
        }
        return octets;
    }

    static void type(WindowMachine machine, String text) {
        for (int k = 0; k < text.length(); k += 8) {
            machine.letters(octets(text.substring(k, Math.min(text.length(), k + 8))));
        }
    }

    static int translate(WindowMachine machine, int address, String text) {
        type(machine, text);
        return machine.assemble(address);
    }

    /** A machine with these lines from address 0 on. */
    static WindowMachine program(String... lines) {
        WindowMachine machine = new WindowMachine();
        for (int k = 0; k < lines.length; k++) {
            translate(machine, 4 * k, lines[k]);
        }
        return machine;
    }
}

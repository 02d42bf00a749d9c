/** What README.md shows under Use: the same calls, and the answers that it tells. */
final class ReadmeTest {
    private static final Checks checks = new Checks();

    public static void main(String[] args) {
        lines();
        traps();
        checks.end();
    }

    private static void type(WindowMachine machine, String text) {
        for (int from = 0; from < text.length(); from += 8) {
            long octets = 0;
            for (int k = Math.min(text.length(), from + 8) - 1; k >= from; k--) {
                octets = octets << 8 | text.charAt(k);
            }
            machine.letters(octets);
        }
    }

    private static void lines() {
        WindowMachine machine = new WindowMachine();
        type(machine, "addcc %1,-1,%2");
        checks.due("the word", machine.assemble(0), -2071953409);
        checks.due("what register 1 was", machine.set(0, 1, 5), 0);
        checks.due("how many steps", machine.run(1), 1);
        checks.due("register 2", machine.register(0, 2), 4);
        checks.due("PC", machine.state(0), 4);
        type(machine, "addcc %1,5000,%2");
        checks.dueArgument("a number too large", () -> machine.assemble(4));
        checks.due("its place", machine.place(), 9);
    }

    private static void traps() {
        WindowMachine machine = new WindowMachine();
        type(machine, "udiv %1,%0,%2");
        machine.assemble(0);
        type(machine, "add %2,1,%2");
        machine.assemble(4);
        type(machine, "or %0,41,%2");
        machine.assemble(16 * 42);
        type(machine, "jmpl %18,0,%0");
        machine.assemble(16 * 42 + 4);
        type(machine, "rett %18,4");
        machine.assemble(16 * 42 + 8);
        machine.mode(0, 0, 0, 0, 5);
        checks.due("steps through the handler", machine.run(5), 5);
        checks.due("what the handler gave, and 1", machine.register(0, 2), 42);
        checks.due("traps", machine.state(10), 1);
        checks.due("not halted before", machine.start(0), -1);
        checks.due("steps to the halt", machine.run(5), 1);
        checks.due("why it halted", machine.state(8), 42);
        checks.dueThrow("running on", IllegalStateException.class, () -> machine.run(5));
        checks.due("why it had halted", machine.start(0), 42);
    }
}

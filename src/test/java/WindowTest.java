/** save, restore, and the windows they move. */
final class WindowTest {
    private static final Checks checks = new Checks();

    public static void main(String[] args) {
        moving();
        invalid();
        sharing();
        checks.end();
    }

    private static void moving() {
        WindowMachine machine = Checks.program("save %8,%16,%8", "restore %24,1,%9", "restore %0,7,%16", "save %0,9,%1");
        machine.set(0, 8, 100);
        machine.set(0, 16, 20);
        machine.set(3, 8, 5000);
        machine.set(3, 16, 6000);
        machine.mode(9, 0, 0, 0, 4);
        machine.run(1);
        checks.dueState("save", machine, Checks.WINDOW, 3, Checks.FLAGS, 9, Checks.PC, 4, Checks.NEXT, 8);
        checks.due("to rd of the new window", machine.register(3, 8), 120);
        checks.due("not of the old one", machine.register(0, 8), 100);
        checks.due("which it sees as its in", machine.register(3, 24), 100);
        machine.run(1);
        checks.dueState("restore", machine, Checks.WINDOW, 0, Checks.FLAGS, 9);
        checks.due("reckoned in the window before", machine.register(0, 9), 101);
        machine.run(1);
        checks.due("restore goes up", machine.state(Checks.WINDOW), 1);
        checks.due("a local of window 1", machine.register(1, 16), 7);
        machine.run(1);
        checks.due("save goes down", machine.state(Checks.WINDOW), 0);
        checks.due("a global", machine.register(2, 1), 9);

        WindowMachine round = Checks.program("save %0,1,%1", "save %0,2,%2", "save %0,3,%3", "save %0,4,%4",
            "restore %0,1,%1", "restore %0,1,%1", "restore %0,1,%1", "restore %0,1,%1");
        int[] windows = {3, 2, 1, 0, 1, 2, 3, 0};
        for (int window : windows) {
            round.run(1);
            checks.due("round", round.state(Checks.WINDOW), window);
        }
    }

    private static void invalid() {
        for (int window = 0; window < 4; window++) {
            int below = (window + 3) % 4;
            int above = (window + 1) % 4;
            for (int set = 0; set < 16; set++) {
                WindowMachine machine = Checks.program("wrpsr %0," + (128 + window), "save %0,1,%1", "restore %0,2,%2");
                machine.run(1);
                machine.mode(0, 0, set, 0, 4);
                machine.run(1);
                boolean stops = (set >> below & 1) == 1;
                checks.dueState("save from " + window + " with " + set, machine, Checks.HALTED, stops ? 5 : -1,
                    Checks.WINDOW, stops ? window : below);
                checks.due("rd", machine.register(0, 1), stops ? 0 : 1);

                machine = Checks.program("wrpsr %0," + (128 + window), "restore %0,2,%2");
                machine.run(1);
                machine.mode(0, 0, set, 0, 4);
                machine.run(1);
                stops = (set >> above & 1) == 1;
                checks.dueState("restore from " + window + " with " + set, machine, Checks.HALTED, stops ? 6 : -1,
                    Checks.WINDOW, stops ? window : above);
                checks.due("rd", machine.register(0, 2), stops ? 0 : 2);
            }
        }
    }

    private static void sharing() {
        WindowMachine machine = Checks.program("add %0,5,%8", "save %0,0,%0", "add %24,1,%24", "add %0,9,%16",
            "add %0,9,%8", "restore %0,0,%0", "add %8,%16,%1");
        machine.run(7);
        checks.due("only the ins come back", machine.register(0, 1), 6);
    }
}

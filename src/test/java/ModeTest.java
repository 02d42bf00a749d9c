/** Promises 11 and 12: state and mode. */
final class ModeTest {
    public static void main(String[] args) {
        Checks checks = new Checks();
        WindowMachine machine = new WindowMachine();
        checks.due("mode answers W", machine.mode(9, -5, 10, -1, 3), 0);
        checks.dueState("all is set", machine, Checks.FLAGS, 9, Checks.Y, -5, Checks.INVALID, 10,
            Checks.BASE, -4096, Checks.MODE, 3, Checks.WINDOW, 0, Checks.PC, 0, Checks.NEXT, 4);
        machine.mode(6, 5, 5, 8191, 4);
        checks.dueState("set again", machine, Checks.FLAGS, 6, Checks.Y, 5, Checks.INVALID, 5,
            Checks.BASE, 4096, Checks.MODE, 4);
        for (int mode = 0; mode < 8; mode++) {
            machine.mode(15, 0, 15, 0, mode);
            checks.dueState("mode " + mode, machine, Checks.MODE, mode, Checks.FLAGS, 15, Checks.INVALID, 15);
        }
        machine.mode(1, 2, 3, 4096, 5);
        int[][] wrong = {{-1, 0, 0}, {16, 0, 0}, {0, -1, 0}, {0, 16, 0}, {0, 0, -1}, {0, 0, 8},
            {Integer.MIN_VALUE, 0, 0}, {0, Integer.MAX_VALUE, 0}, {0, 0, Integer.MIN_VALUE}};
        for (int[] row : wrong) {
            checks.dueArgument("mode(" + row[0] + ", 9, " + row[1] + ", 0, " + row[2] + ")",
                () -> machine.mode(row[0], 9, row[1], 0, row[2]));
        }
        checks.dueState("nothing is changed", machine, Checks.FLAGS, 1, Checks.Y, 2, Checks.INVALID, 3,
            Checks.BASE, 4096, Checks.MODE, 5);
        for (int what : new int[] {-1, 12, Integer.MIN_VALUE, Integer.MAX_VALUE}) {
            checks.dueArgument("state(" + what + ")", () -> machine.state(what));
        }

        WindowMachine moved = Checks.program("save %0,0,%0");
        moved.run(1);
        checks.due("mode answers W 3", moved.mode(0, 0, 0, 0, 4), 3);
        checks.due("and leaves it", moved.state(Checks.WINDOW), 3);
        checks.end();
    }
}

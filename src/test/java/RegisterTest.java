/** Promises 9 and 10: set and register. */
final class RegisterTest {
    public static void main(String[] args) {
        Checks checks = new Checks();
        WindowMachine machine = new WindowMachine();
        checks.due("set(0, 0, 5)", machine.set(0, 0, 5), 0);
        checks.due("0 stays 0", machine.register(0, 0), 0);
        checks.due("set again", machine.set(3, 0, 6), 0);
        checks.due("set(1, 7, 70)", machine.set(1, 7, 70), 0);
        for (int w = 0; w < 4; w++) {
            checks.due("a global in window " + w, machine.register(w, 7), 70);
        }
        checks.due("what it was", machine.set(2, 7, 71), 70);

        for (int w = 0; w < 4; w++) {
            for (int r = 8; r < 24; r++) {
                checks.due("set(" + w + ", " + r + ")", machine.set(w, r, 100 * w + r), 0);
            }
        }
        for (int w = 0; w < 4; w++) {
            for (int r = 8; r < 24; r++) {
                checks.due("register(" + w + ", " + r + ")", machine.register(w, r), 100 * w + r);
            }
            for (int r = 24; r < 32; r++) {
                checks.due("register(" + w + ", " + r + ")", machine.register(w, r), 100 * ((w + 1) % 4) + r - 16);
            }
        }
        checks.due("an in is an out", machine.set(3, 31, -1), 15);
        checks.due("of the window above", machine.register(0, 15), -1);

        int[][] wrong = {{0, -1}, {0, 32}, {-1, 0}, {4, 0}, {4, 32}, {0, Integer.MIN_VALUE}, {Integer.MAX_VALUE, 3},
            {3, Integer.MAX_VALUE}, {Integer.MIN_VALUE, 31}};
        for (int[] pair : wrong) {
            checks.dueArgument("set(" + pair[0] + ", " + pair[1] + ")", () -> machine.set(pair[0], pair[1], 1));
            checks.dueArgument("register(" + pair[0] + ", " + pair[1] + ")", () -> machine.register(pair[0], pair[1]));
        }
        checks.end();
    }
}

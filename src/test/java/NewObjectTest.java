/** Promise 1: what a new object holds. */
final class NewObjectTest {
    public static void main(String[] args) {
        Checks checks = new Checks();
        WindowMachine machine = new WindowMachine();
        checks.dueState("new", machine, Checks.PC, 0, Checks.NEXT, 4, Checks.WINDOW, 0, Checks.FLAGS, 0,
            Checks.Y, 0, Checks.INVALID, 0, Checks.MODE, 4, Checks.BASE, 0, Checks.HALTED, -1,
            Checks.STEPS, 0, Checks.TRAPS, 0, Checks.ANNULLED, 0);
        for (int a = 0; a < 1024; a += 4) {
            checks.due("word(" + a + ")", machine.word(a), 0);
        }
        for (int w = 0; w < 4; w++) {
            for (int r = 0; r < 32; r++) {
                checks.due("register(" + w + ", " + r + ")", machine.register(w, r), 0);
            }
        }
        checks.due("place()", machine.place(), -1);
        checks.due("letters: the line was empty", machine.letters('x'), 1);

        WindowMachine other = new WindowMachine();
        machine.put(0, 5);
        machine.set(0, 1, 6);
        checks.due("another object's word", other.word(0), 0);
        checks.due("another object's register", other.register(0, 1), 0);
        checks.due("another object's line", other.letters('x'), 1);
        checks.end();
    }
}

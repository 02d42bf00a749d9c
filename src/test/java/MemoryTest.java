/** Promises 5 and 6: put and word. */
final class MemoryTest {
    public static void main(String[] args) {
        Checks checks = new Checks();
        WindowMachine machine = new WindowMachine();
        checks.due("put(0, 7)", machine.put(0, 7), 0);
        checks.due("put(0, -9)", machine.put(0, -9), 7);
        checks.due("word(0)", machine.word(0), -9);
        checks.due("put(1020, MIN)", machine.put(1020, Integer.MIN_VALUE), 0);
        checks.due("word(1020)", machine.word(1020), Integer.MIN_VALUE);
        checks.due("word(1016)", machine.word(1016), 0);
        checks.due("word(4)", machine.word(4), 0);
        int[] wrong = {-4, -1, 1, 2, 3, 5, 1021, 1022, 1023, 1024, 1028, 4096,
            Integer.MIN_VALUE, Integer.MAX_VALUE, Integer.MAX_VALUE - 3};
        for (int a : wrong) {
            checks.dueIndex("put(" + a + ")", () -> machine.put(a, 1));
            checks.dueIndex("word(" + a + ")", () -> machine.word(a));
        }
        checks.due("word(0) stays", machine.word(0), -9);
        checks.due("word(1020) stays", machine.word(1020), Integer.MIN_VALUE);

        for (int a = 4; a < 1020; a += 8) {
            machine.put(a, a * 31);
        }
        for (int a = 4; a < 1020; a += 8) {
            checks.due("word(" + a + ")", machine.word(a), a * 31);
        }
        checks.end();
    }
}

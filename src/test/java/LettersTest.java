/** Promise 2: letters. */
final class LettersTest {
    private static final Checks checks = new Checks();

    public static void main(String[] args) {
        counting();
        wrongOctets();
        full();
        checks.end();
    }

    private static void counting() {
        WindowMachine machine = new WindowMachine();
        checks.due("one letter", machine.letters('n'), 1);
        checks.due("two more", machine.letters(Checks.octets("op")), 3);
        checks.due("they are in order", machine.assemble(0), 0x01000000);
        checks.due("eight letters", machine.letters(Checks.octets("add %1,1")), 8);
        checks.due("the first 0 ends them", machine.letters(0xFF05_8000_3325_2CL | 0x0100_0000_0000_0000L), 11);
        checks.due("what is behind the 0 is not looked at", machine.assemble(0), 0x86006001);
        checks.due("32 and 126 are letters", machine.letters(0x7E20), 2);
    }

    private static void wrongOctets() {
        WindowMachine machine = new WindowMachine();
        machine.letters('n');
        checks.dueArgument("0", () -> machine.letters(0));
        checks.dueArgument("the lowest is 0", () -> machine.letters(0x6100));
        checks.dueArgument("31", () -> machine.letters(31));
        checks.dueArgument("127", () -> machine.letters(127));
        checks.dueArgument("128", () -> machine.letters(128));
        checks.dueArgument("255 in each", () -> machine.letters(-1));
        checks.dueArgument("10 behind letters", () -> machine.letters(0x0A6161));
        checks.dueArgument("255 as the highest", () -> machine.letters(0xFF61616161616161L));
        checks.due("nothing has come to the line", machine.letters(Checks.octets("op")), 3);
        checks.due("nor changed it", machine.assemble(0), 0x01000000);
    }

    private static void full() {
        WindowMachine machine = new WindowMachine();
        long eight = Checks.octets("aaaaaaaa");
        for (int k = 1; k <= 4; k++) {
            checks.due("letters " + k, machine.letters(eight), 8 * k);
        }
        checks.due("37", machine.letters(Checks.octets("aaaaa")), 37);
        checks.dueIndex("41", () -> machine.letters(Checks.octets("aaaa")));
        checks.dueIndex("45", () -> machine.letters(eight));
        checks.due("40", machine.letters(Checks.octets("aaa")), 40);
        checks.dueIndex("41 again", () -> machine.letters('a'));
        checks.dueArgument("no letter goes before no room", () -> machine.letters(0x7F61));
        checks.dueArgument("0 goes before no room", () -> machine.letters(0));
        checks.dueArgument("40 letters of no name", () -> machine.assemble(0));
        checks.due("there is room again", machine.letters(eight), 8);
    }
}

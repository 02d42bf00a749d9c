/** Promises 3 and 4: lines that are no instruction, and the place that is wrong. */
final class PlaceTest {
    private static final Checks checks = new Checks();

    public static void main(String[] args) {
        names();
        operands();
        numbers();
        missing();
        behindLongerLines();
        latest();
        addresses();
        checks.end();
    }

    private static void due(String line, int want) {
        WindowMachine machine = new WindowMachine();
        machine.put(8, 77);
        Checks.type(machine, line);
        checks.dueArgument("\"" + line + "\"", () -> machine.assemble(8));
        checks.due("\"" + line + "\" place()", machine.place(), want);
        checks.due("\"" + line + "\" leaves the word", machine.word(8), 77);
        checks.due("\"" + line + "\" leaves an empty line", machine.letters('x'), 1);
    }

    private static void names() {
        due("foo", 0);
        due("foo %1", 0);
        due("addd %1,%2,%3", 0);
        due("addz %1,%2,%3", 0);
        due("ad %1,%2,%3", 0);
        due("b 3", 0);
        due("t %0,1", 0);
        due("bx 3", 0);
        due("ADD %1,%2,%3", 0);
        due(" add %1,%2,%3", 0);
        due("- %1,%2,%3", 0);
        due("%1", 0);
        due("mulscccc %1,%2,%3", 0);
        due("muls %1,%2,%3", 0);
        due("sllcc %1,%2,%3", 0);
        due("jmplcc %1,%2,%3", 0);
        due("ticc %1,2", 0);
        due("nopnop", 0);
        due("restores %1,%2,%3", 0);
        due("addX %1,%2,%3", 3);
        due("add2 %1,%2,%3", 3);
        due("add,", 3);
        due("ba,a 3", 2);
        due("nop ", 3);
        due("nop %1", 3);
        due("nop1", 3);
    }

    private static void operands() {
        due("add  %1,%2,%3", 4);
        due("add 1,%2,%3", 4);
        due("add %x,%2,%3", 5);
        due("add %-1,%2,%3", 5);
        due("add %1 ,%2,%3", 6);
        due("add %1,%2;%3", 9);
        due("add %1,%2,3", 10);
        due("add %1,%2,%3 ", 12);
        due("add %1,%2,%3,", 12);
        due("add %1,%2,%3,%4", 12);
        due("add %1,x,%3", 7);
        due("add %1,-x,%3", 8);
        due("add %1,--1,%3", 8);
        due("add %1,+1,%3", 7);
        due("add %1,1-,%3", 8);
        due("add %1,,%3", 7);
        due("add %123,%2,%3", 7);
        due("add %1,%2,%312", 13);
        due("rdy %1,%2", 6);
        due("rdy 1", 4);
        due("wry %1,%2,%3", 9);
        due("rett %1,8,%0", 9);
        due("ta %1,8,%0", 7);
        due("sethi %1,%2", 6);
        due("sethi 1,2", 8);
        due("sethi -,%2", 7);
        due("sethi 1,%2,", 10);
        due("call %1", 5);
        due("call 1,a", 6);
        due("ba %1", 3);
        due("ba 3 ,a", 4);
        due("ba 3,b", 5);
        due("ba 3,ab", 6);
        due("ba 3,a,a", 6);
        due("ba 3a", 4);
        due("st 1,%2,%3", 3);
        due("st %1,2,%3", 6);
        due("st %1,%2,x", 9);
        due("st %1,%2,3,", 10);
        due("ld %1,2,3", 8);
    }

    private static void numbers() {
        due("add %32,%2,%3", 4);
        due("add %99,%2,%3", 4);
        due("add %321,%2,%3", 4);
        due("add %1,%32,%3", 7);
        due("add %1,%2,%32", 10);
        due("add %1,4096,%3", 7);
        due("add %1,-4097,%3", 7);
        due("add %1,999999999,%3", 7);
        due("add %1,4096;", 7);
        due("add %1,0000000001,%3", 16);
        due("add %1,-0000000001,%3", 17);
        due("ta %0,4096", 6);
        due("wrpsr %0,-4097", 9);
        due("st %1,%2,4096", 9);
        due("sethi 4194304,%1", 6);
        due("sethi -1,%1", 6);
        due("rdpsr %40", 6);
        due("ba 2097152", 3);
        due("ba -2097153", 3);
        due("ba 2097152,a", 3);
        due("ba 0000000001", 12);
        due("call 536870912", 5);
        due("call -536870913", 5);
        due("call 999999999", 5);
        due("call 1234567890", 14);
    }

    private static void missing() {
        // The last operand of each has one digit, so that no beginning is a whole line.
        String[] lines = {"add %12,%2,%3", "add %1,-7,%3", "sethi 5,%1", "rdy %1", "wry %1,-2", "call 1",
            "ta %0,%3", "ld %1,%2,%3", "st %1,%2,3", "rett %1,8", "ba -3"};
        for (String line : lines) {
            for (int end = line.indexOf(' '); end < line.length(); end++) {
                due(line.substring(0, end), end);
            }
        }
        due("ba 3,", 5);
    }

    /** A longer line before must not be read behind a shorter one. */
    private static void behindLongerLines() {
        String[] lines = {"add %12,%2,%3", "add %1,-7,%3", "add %1,%2,%3", "sethi 25,%1", "wry %1,-2", "ba -3,a", "nop"};
        for (String line : lines) {
            WindowMachine machine = new WindowMachine();
            for (int end = 0; end < line.length(); end++) {
                Checks.translate(machine, 0, line);
                if (end > 0) {
                    Checks.type(machine, line.substring(0, end));
                }
                String text = "\"" + line.substring(0, end) + "\" behind the whole line";
                boolean isWhole = line.equals("ba -3,a") && end == 5;
                boolean isName = end >= line.replaceAll("[^a-z].*", "").length();
                if (isWhole) {
                    checks.due(text, machine.assemble(0), 0x10BFFFFD);
                } else {
                    checks.dueArgument(text, () -> machine.assemble(0));
                    checks.due(text + ": place()", machine.place(), isName ? end : 0);
                }
            }
        }
    }

    private static void latest() {
        WindowMachine machine = new WindowMachine();
        checks.due("none yet", machine.place(), -1);
        checks.dueArgument("an empty line", () -> machine.assemble(0));
        checks.due("an empty line's place", machine.place(), 0);
        Checks.type(machine, "add %1");
        checks.due("letters leave it", machine.place(), 0);
        checks.dueArgument("add %1", () -> machine.assemble(0));
        checks.due("add %1: place()", machine.place(), 6);
        checks.due("place() leaves it", machine.place(), 6);
        Checks.translate(machine, 0, "nop");
        checks.due("a good one", machine.place(), -1);
    }

    private static void addresses() {
        int[] wrong = {-4, -1, 1, 2, 3, 1021, 1022, 1023, 1024, 1028, Integer.MIN_VALUE, Integer.MAX_VALUE};
        for (int a : wrong) {
            WindowMachine machine = new WindowMachine();
            Checks.type(machine, "foo");
            checks.dueArgument("a wrong line goes before the address " + a, () -> machine.assemble(a));
            checks.due("foo: place()", machine.place(), 0);
            Checks.type(machine, "nop");
            checks.dueIndex("assemble(" + a + ")", () -> machine.assemble(a));
            checks.due("the line was good", machine.place(), -1);
            checks.due("the line is empty", machine.letters('x'), 1);
            for (int k = 0; k < 1024; k += 128) {
                checks.due("memory stays", machine.word(k), 0);
            }
        }
    }
}

import java.util.Arrays;
import java.util.HashSet;
import java.util.Set;

/** Promises 3 and 4: each kind of line, cut short, with a wrong letter, and with numbers at their edges. */
final class LineEdgesTest {
    private static final Checks checks = new Checks();
    private static final String[] CONDITIONS =
        "a n e ne g le ge l gu leu cc cs pos neg vc vs".split(" ");
    private static final String[] THREE_OPERANDS = ("add and or xor sub andn orn xnor addx subx umul smul udiv sdiv "
        + "addcc andcc orcc xorcc subcc andncc orncc xnorcc addxcc subxcc umulcc smulcc udivcc sdivcc "
        + "mulscc sll srl sra jmpl save restore ld ldub lduh ldd ldsb ldsh ldstub swap").split(" ");
    private static final String[] READS = "rdy rdpsr rdwim rdtbr".split(" ");
    private static final String[] TWO_OPERANDS = "wry wrpsr wrwim wrtbr rett".split(" ");
    private static final String[] STORES = "st stb sth std".split(" ");
    private static final Set<String> NAMES = new HashSet<>();

    public static void main(String[] args) {
        collectNames();
        names();
        for (String name : THREE_OPERANDS) {
            kind(name + " %1,%2,%3");
            kind(name + " %31,-4,%0");
            registers(name + " R,%2,%3", name + " %1,R,%3", name + " %1,%2,R", name + " %1,2,R");
            numbers(name + " %1,N,%3", -4096, 4095);
        }
        for (String name : READS) {
            kind(name + " %1");
            registers(name + " R");
        }
        for (String name : TWO_OPERANDS) {
            twoOperands(name);
        }
        for (String condition : CONDITIONS) {
            twoOperands("t" + condition);
            branch("b" + condition);
        }
        for (String name : STORES) {
            kind(name + " %1,%2,%3");
            kind(name + " %1,%2,-3");
            registers(name + " R,%2,%3", name + " %1,R,3", name + " %1,%2,R");
            numbers(name + " %1,%2,N", -4096, 4095);
        }
        kind("sethi 5,%3");
        registers("sethi 5,R");
        numbers("sethi N,%3", 0, 4194303);
        kind("call 5");
        kind("call -5");
        numbers("call N", -536870912, 536870911);
        nop();
        digits();
        checks.end();
    }

    private static void collectNames() {
        for (String[] names : new String[][] {THREE_OPERANDS, READS, TWO_OPERANDS, STORES, {"sethi", "call", "nop"}}) {
            NAMES.addAll(Arrays.asList(names));
        }
        for (String condition : CONDITIONS) {
            NAMES.add("b" + condition);
            NAMES.add("t" + condition);
        }
    }

    private static void twoOperands(String name) {
        kind(name + " %1,%2");
        kind(name + " %1,-2");
        registers(name + " R,%2", name + " %1,R", name + " R,2");
        numbers(name + " %1,N", -4096, 4095);
    }

    private static void branch(String name) {
        kind(name + " 3");
        kind(name + " -3");
        numbers(name + " N", -2097152, 2097151);
        numbers(name + " N,a", -2097152, 2097151);
        wrongLetters(name + " 3,a");
        bad(name + " 3,", name.length() + 3);
        good(name + " 3,a");
    }

    /** Good as it is; not with a letter less, another letter, or one more. */
    private static void kind(String line) {
        good(line);
        for (int end = 0; end < line.length(); end++) {
            bad(line.substring(0, end), end <= line.indexOf(' ') ? placeInName(line, end) : end);
        }
        wrongLetters(line);
    }

    private static void wrongLetters(String line) {
        for (char wrong : new char[] {'~', '!', 'A', '/', ':'}) {
            for (int at = 0; at <= line.length(); at++) {
                String rest = at < line.length() ? line.substring(at + 1) : "";
                bad(line.substring(0, at) + wrong + rest, at <= line.indexOf(' ') ? placeInName(line, at) : at);
            }
        }
    }

    /** What ends a name here ends one that there is, or else 0 is the place. */
    private static int placeInName(String line, int at) {
        return NAMES.contains(line.substring(0, at)) ? at : 0;
    }

    /** "a REGISTER above 31, its first letter" */
    private static void registers(String... patterns) {
        for (String pattern : patterns) {
            int at = pattern.indexOf('R');
            for (int number : new int[] {0, 9, 10, 30, 31}) {
                good(pattern.replace("R", "%" + number));
            }
            for (int number : new int[] {32, 33, 40, 99}) {
                bad(pattern.replace("R", "%" + number), at);
            }
            good(pattern.replace("R", "%07"));
            bad(pattern.replace("R", "%007"), at + 3);
            bad(pattern.replace("R", "%310"), at + 3);
            bad(pattern.replace("R", "%320"), at);
            bad(pattern.replace("R", "%-1"), at + 1);
            bad(pattern.replace("R", "% 1"), at + 1);
        }
    }

    /** "a number that is too large, .. its first letter" */
    private static void numbers(String pattern, int least, int greatest) {
        int at = pattern.indexOf('N');
        good(pattern.replace("N", String.valueOf(least)));
        good(pattern.replace("N", String.valueOf(greatest)));
        good(pattern.replace("N", "0"));
        bad(pattern.replace("N", String.valueOf(least - 1)), at);
        bad(pattern.replace("N", String.valueOf(greatest + 1)), at);
        bad(pattern.replace("N", "999999999"), at);
        bad(pattern.replace("N", "-999999999"), at);
        good(pattern.replace("N", "000000001"));
        bad(pattern.replace("N", "0000000001"), at + 9);
        bad(pattern.replace("N", "+1"), at);
        bad(pattern.replace("N", " 1"), at);
        if (least < 0) {
            good(pattern.replace("N", "-000000001"));
            bad(pattern.replace("N", "-0000000001"), at + 10);
            bad(pattern.replace("N", "--1"), at + 1);
        }
    }

    /** "a MNEMONIC that there is not: 0", also one of 40 letters, and none at all. */
    private static void names() {
        for (String name : NAMES) {
            for (char last = 'a'; last <= 'z'; last++) {
                if (!NAMES.contains(name + last)) {
                    bad(name + last, 0);
                    bad(name + last + " %1,%2,%3", 0);
                }
            }
            bad(name.toUpperCase(), 0);
            bad(" " + name, 0);
        }
        bad("", 0);
        bad(" ", 0);
        bad("~", 0);
        bad("a".repeat(40), 0);
        bad("add".repeat(13) + "a", 0);
        bad("nop" + " ".repeat(37), 3);
        bad("restore %31,-000004096,%31" + ",".repeat(14), 26);
    }

    /** "(none: no blank)" */
    private static void nop() {
        good("nop");
        bad("nop ", 3);
        bad("nop 0", 3);
        bad("nop %0", 3);
        bad("nop,a", 3);
        bad("no", 0);
    }

    /** "a % and one or two digits": all that there are. */
    private static void digits() {
        for (int number = 0; number < 100; number++) {
            String two = (number < 10 ? "0" : "") + number;
            if (number < 32) {
                dueWord("rdy %" + number, 0x81400000 | number << 25);
                dueWord("rdy %" + two, 0x81400000 | number << 25);
            } else {
                bad("rdy %" + two, 4);
            }
        }
    }

    private static void good(String line) {
        WindowMachine machine = new WindowMachine();
        Checks.type(machine, line);
        int made;
        try {
            made = machine.assemble(1020);
        } catch (IllegalArgumentException e) {
            checks.due("\"" + line + "\" is good, but place() is " + machine.place(), 0, 1);
            return;
        }
        checks.due("\"" + line + "\": place()", machine.place(), -1);
        checks.due("\"" + line + "\": the word at 1020", machine.word(1020), made);
        checks.due("\"" + line + "\": the line is empty", machine.letters('x'), 1);
    }

    private static void dueWord(String line, int want) {
        checks.due("\"" + line + "\"", Checks.translate(new WindowMachine(), 0, line), want);
    }

    private static void bad(String line, int place) {
        WindowMachine machine = new WindowMachine();
        machine.put(0, 77);
        Checks.type(machine, line);
        checks.dueArgument("\"" + line + "\"", () -> machine.assemble(0));
        checks.due("\"" + line + "\": place()", machine.place(), place);
        checks.due("\"" + line + "\": the word stays", machine.word(0), 77);
        checks.due("\"" + line + "\": the line is empty", machine.letters('x'), 1);
    }
}

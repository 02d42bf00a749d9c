/** Promise 3: the words that lines become. */
final class TranslationTest {
    private static final Checks checks = new Checks();
    private static final WindowMachine[] machine = {new WindowMachine()};
    private static int calls = 0;

    private static final String[] THREE_OPERANDS = {
        "add 0", "and 1", "or 2", "xor 3", "sub 4", "andn 5", "orn 6", "xnor 7", "addx 8", "subx 12",
        "umul 10", "smul 11", "udiv 14", "sdiv 15", "addcc 16", "andcc 17", "orcc 18", "xorcc 19", "subcc 20",
        "andncc 21", "orncc 22", "xnorcc 23", "addxcc 24", "subxcc 28", "umulcc 26", "smulcc 27", "udivcc 30",
        "sdivcc 31", "mulscc 36", "sll 37", "srl 38", "sra 39", "jmpl 56", "save 60", "restore 61"};
    private static final String[] TARGET_ONLY = {"rdy 40", "rdpsr 41", "rdwim 42", "rdtbr 43"};
    private static final String[] SOURCES_ONLY = {"wry 48", "wrpsr 49", "wrwim 50", "wrtbr 51", "rett 57"};
    private static final String[] LOADS = {
        "ld 0", "ldub 1", "lduh 2", "ldd 3", "ldsb 9", "ldsh 10", "ldstub 13", "swap 15"};
    private static final String[] STORES = {"st 4", "stb 5", "sth 6", "std 7"};
    private static final String[] CONDITIONS = {
        "n", "e", "le", "l", "leu", "cs", "neg", "vs", "a", "ne", "g", "ge", "gu", "cc", "pos", "vc"};

    public static void main(String[] args) {
        operations();
        accesses();
        conditions();
        knownWords();
        edgesOfNumbers();
        whereItGoes();
        checks.end();
    }

    private static void due(String line, int want) {
        // An object is promised for 512 calls only.
        if (calls++ == 60) {
            calls = 0;
            machine[0] = new WindowMachine();
        }
        checks.due(line, Checks.translate(machine[0], 1020, line), want);
        checks.due(line + " in memory", machine[0].word(1020), want);
        checks.due(line + " place()", machine[0].place(), -1);
    }

    private static int format(int op, int rd, int op3, int rs1, int low14) {
        return op << 30 | rd << 25 | op3 << 19 | rs1 << 14 | low14;
    }

    private static String name(String row) {
        return row.substring(0, row.indexOf(' '));
    }

    private static int code(String row) {
        return Integer.parseInt(row.substring(row.indexOf(' ') + 1));
    }

    private static void operations() {
        for (String row : THREE_OPERANDS) {
            due(name(row) + " %17,%30,%9", format(2, 9, code(row), 17, 30));
            due(name(row) + " %31,-3,%0", format(2, 0, code(row), 31, 0x3FFD));
        }
        for (String row : TARGET_ONLY) {
            due(name(row) + " %21", format(2, 21, code(row), 0, 0));
        }
        for (String row : SOURCES_ONLY) {
            due(name(row) + " %5,%26", format(2, 0, code(row), 5, 26));
            due(name(row) + " %8,100", format(2, 0, code(row), 8, 0x2064));
        }
    }

    private static void accesses() {
        for (String row : LOADS) {
            due(name(row) + " %17,%30,%9", format(3, 9, code(row), 17, 30));
            due(name(row) + " %1,4095,%31", format(3, 31, code(row), 1, 0x2FFF));
        }
        for (String row : STORES) {
            due(name(row) + " %9,%17,%30", format(3, 9, code(row), 17, 30));
            due(name(row) + " %31,%1,-4096", format(3, 31, code(row), 1, 0x3000));
        }
    }

    private static void conditions() {
        for (int k = 0; k < 16; k++) {
            due("b" + CONDITIONS[k] + " 5", k << 25 | 2 << 22 | 5);
            due("b" + CONDITIONS[k] + " -1,a", 1 << 29 | k << 25 | 2 << 22 | 0x3FFFFF);
            due("t" + CONDITIONS[k] + " %3,%4", format(2, k, 58, 3, 4));
            due("t" + CONDITIONS[k] + " %3,-1", format(2, k, 58, 3, 0x3FFF));
        }
    }

    private static void knownWords() {
        due("nop", 0x01000000);
        due("sethi 0,%0", 0x01000000);
        due("sethi 4194303,%31", 0x3F3FFFFF);
        due("save %14,-96,%14", 0x9DE3BFA0);
        due("restore %0,%0,%0", 0x81E80000);
        due("jmpl %31,8,%0", 0x81C7E008);
        due("jmpl %15,8,%0", 0x81C3E008);
        due("call 1", 0x40000001);
        due("ba 2", 0x10800002);
        due("or %0,%1,%2", 0x84100001);
        due("ta %0,16", 0x91D02010);
        due("add %01,000000007,%09", format(2, 9, 0, 1, 0x2007));
    }

    private static void edgesOfNumbers() {
        due("add %0,-4096,%0", format(2, 0, 0, 0, 0x3000));
        due("add %0,4095,%0", format(2, 0, 0, 0, 0x2FFF));
        due("add %0,-0,%0", format(2, 0, 0, 0, 0x2000));
        due("sethi -0,%1", format(0, 1, 32, 0, 0));
        due("ba 2097151", 0x109FFFFF);
        due("ba -2097152", 0x10A00000);
        due("call 536870911", 0x5FFFFFFF);
        due("call -536870912", 0x60000000);
        due("call -1", 0x7FFFFFFF);
    }

    private static void whereItGoes() {
        WindowMachine fresh = new WindowMachine();
        checks.due("at 0", Checks.translate(fresh, 0, "nop"), 0x01000000);
        checks.due("at 4", Checks.translate(fresh, 4, "rdy %1"), 0x83400000);
        checks.due("word(0)", fresh.word(0), 0x01000000);
        checks.due("word(4)", fresh.word(4), 0x83400000);
        checks.due("the line is empty", fresh.letters('n'), 1);
    }
}

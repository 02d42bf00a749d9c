/**
 * A processor with windows of registers, and its assembler.
 *
 * Nothing but exceptions is made after the constructor: all calls of a run share one room.
 */
public final class WindowMachine {
    private static final int WORD_OCTETS = 4;
    private static final int WINDOWS = 4;
    private static final int REGISTERS = 32;
    private static final int MOST_STEPS = 200;

    private final Memory memory;
    private final Assembler assembler;
    private final Processor processor;

    public WindowMachine() {
        memory = new Memory();
        assembler = new Assembler();
        processor = new Processor(memory);
    }

    public int letters(long w) throws IllegalArgumentException, IndexOutOfBoundsException {
        int count = Assembler.lettersIn(w);
        if (count == 0) {
            throw new IllegalArgumentException("an octet is no letter");
        }
        if (!assembler.hasRoomFor(count)) {
            throw new IndexOutOfBoundsException("the line would be too long");
        }
        assembler.append(w, count);
        return assembler.length;
    }

    public int assemble(int a) throws IllegalArgumentException, IndexOutOfBoundsException {
        int made = assembler.translate();
        if (assembler.wrong != Assembler.NOTHING_WRONG) {
            throw new IllegalArgumentException("the line is no instruction");
        }
        checkWordAt(a);
        memory.store(a, WORD_OCTETS, made);
        return made;
    }

    public int place() {
        return assembler.wrong;
    }

    public int put(int a, int v) throws IndexOutOfBoundsException {
        checkWordAt(a);
        int before = memory.load(a, WORD_OCTETS);
        memory.store(a, WORD_OCTETS, v);
        return before;
    }

    public int word(int a) throws IndexOutOfBoundsException {
        checkWordAt(a);
        return memory.load(a, WORD_OCTETS);
    }

    public int run(int n) throws IllegalArgumentException, IllegalStateException {
        if (n < 1 || n > MOST_STEPS) {
            throw new IllegalArgumentException("the number of steps is not 1 to 200");
        }
        if (processor.hasHalted()) {
            throw new IllegalStateException("the processor has halted");
        }
        int done = 0;
        while (done < n && !processor.hasHalted()) {
            processor.step();
            done++;
        }
        return done;
    }

    public int start(int a) throws IllegalArgumentException {
        if (!isWordAt(a)) {
            throw new IllegalArgumentException("there is no word at this address");
        }
        int before = processor.halted;
        processor.reset(a);
        return before;
    }

    public int set(int w, int r, int v) throws IllegalArgumentException {
        checkRegister(w, r);
        int before = processor.registers.read(w, r);
        processor.registers.write(w, r, v);
        return before;
    }

    public int register(int w, int r) throws IllegalArgumentException {
        checkRegister(w, r);
        return processor.registers.read(w, r);
    }

    public int state(int what) throws IllegalArgumentException {
        if (what < 0 || what > Processor.LAST_VIEW) {
            throw new IllegalArgumentException("the state has no such part");
        }
        return processor.view(what);
    }

    public int mode(int flags, int y, int invalid, int base, int mode) throws IllegalArgumentException {
        if (flags < 0 || flags > 15 || invalid < 0 || invalid > 15 || mode < 0 || mode > 7) {
            throw new IllegalArgumentException("flags or invalid is not 0 to 15, or mode not 0 to 7");
        }
        processor.flags = flags;
        processor.y = y;
        processor.invalid = invalid;
        processor.changeBase(base);
        processor.changeMode(mode >> 2, mode >> 1 & 1, mode & 1);
        return processor.window;
    }

    private boolean isWordAt(int a) {
        return (a & WORD_OCTETS - 1) == 0 && memory.holds(a, WORD_OCTETS);
    }

    private void checkWordAt(int a) {
        if (!isWordAt(a)) {
            throw new IndexOutOfBoundsException("there is no word at this address");
        }
    }

    private static void checkRegister(int w, int r) {
        if (r < 0 || r >= REGISTERS || w < 0 || w >= WINDOWS) {
            throw new IllegalArgumentException("there is no such register");
        }
    }

    /** 1024 octets, held as words because each element counts in the room. */
    private static final class Memory {
        private static final int OCTETS = 1024;

        private final int[] words;

        Memory() {
            words = new int[OCTETS / WORD_OCTETS];
        }

        boolean holds(int address, int octets) {
            return address >= 0 && address <= OCTETS - octets;
        }

        /** The 1, 2 or 4 octets at an address that is a multiple of their number, without sign. */
        int load(int address, int octets) {
            return words[address / WORD_OCTETS] >>> shiftOf(address, octets) & maskOf(octets);
        }

        void store(int address, int octets, int value) {
            int shift = shiftOf(address, octets);
            int mask = maskOf(octets) << shift;
            int index = address / WORD_OCTETS;
            words[index] = words[index] & ~mask | value << shift & mask;
        }

        private static int shiftOf(int address, int octets) {
            return 8 * (WORD_OCTETS - octets - (address & WORD_OCTETS - 1));
        }

        private static int maskOf(int octets) {
            return octets == WORD_OCTETS ? -1 : (1 << 8 * octets) - 1;
        }
    }

    /** The globals, then the outs and the locals of each window; the ins are another window's outs. */
    private static final class Registers {
        private static final int GROUP = 8;

        private final int[] cells;

        Registers() {
            cells = new int[GROUP + 2 * GROUP * WINDOWS];
        }

        int read(int window, int number) {
            return cells[cellOf(window, number)];
        }

        void write(int window, int number, int value) {
            if (number != 0) {
                cells[cellOf(window, number)] = value;
            }
        }

        void clear() {
            for (int k = 0; k < cells.length; k++) {
                cells[k] = 0;
            }
        }

        private static int cellOf(int window, int number) {
            if (number < GROUP) {
                return number;
            }
            if (number < 3 * GROUP) {
                return window * 2 * GROUP + number;
            }
            return (window + 1) % WINDOWS * 2 * GROUP + number - 2 * GROUP;
        }
    }

    /** Reckons apart from the processor, whose flags a word without cc must leave as they are. */
    private static final class Reckoner {
        static final int AND = 1;
        static final int OR = 2;
        static final int XOR = 3;
        static final int SUB = 4;
        static final int ANDN = 5;
        static final int ORN = 6;
        static final int XNOR = 7;
        static final int ADDX = 8;
        static final int UMUL = 10;
        static final int SMUL = 11;
        static final int SUBX = 12;
        static final int UDIV = 14;
        static final int SDIV = 15;

        private static final long LOW_WORD = 0xFFFFFFFFL;
        private static final long GREATEST_INT = 0x7FFFFFFFL;
        private static final long LEAST_INT = -0x80000000L;
        private static final long LEAST_LONG = 1L << 63;

        private int result;
        /** What multiplying leaves for Y. */
        private int high;
        private int overflow;
        private int carry;

        /** For a kind that there is, dividing by no 0. */
        void reckon(int kind, int a, int b, int carryIn, int y) {
            switch (kind) {
                case AND: take(a & b); break;
                case OR: take(a | b); break;
                case XOR: take(a ^ b); break;
                case SUB: subtract(a, b, 0); break;
                case ANDN: take(a & ~b); break;
                case ORN: take(a | ~b); break;
                case XNOR: take(~(a ^ b)); break;
                case ADDX: add(a, b, carryIn); break;
                case UMUL: takeProduct((a & LOW_WORD) * (b & LOW_WORD)); break;
                case SMUL: takeProduct((long) a * b); break;
                case SUBX: subtract(a, b, carryIn); break;
                case UDIV: takeQuotient(quotientWithoutSign(y & LOW_WORD, a, b & LOW_WORD), 0, LOW_WORD); break;
                case SDIV: takeQuotient(quotientWithSign(y, a, b), LEAST_INT, GREATEST_INT); break;
                default: add(a, b, 0); break;
            }
        }

        void add(int a, int b, int carryIn) {
            take(a + b + carryIn);
            overflow = (~(a ^ b) & (a ^ result)) >>> 31;
            carry = (int) ((a & LOW_WORD) + (b & LOW_WORD) + carryIn >>> 32);
        }

        private void subtract(int a, int b, int borrowIn) {
            take(a - b - borrowIn);
            overflow = ((a ^ b) & (a ^ result)) >>> 31;
            carry = (a & LOW_WORD) < (b & LOW_WORD) + borrowIn ? 1 : 0;
        }

        /** N Z V C of what was reckoned last. */
        int flags() {
            int negative = result < 0 ? 8 : 0;
            int zero = result == 0 ? 4 : 0;
            return negative | zero | overflow << 1 | carry;
        }

        private void take(int value) {
            result = value;
            overflow = 0;
            carry = 0;
        }

        private void takeProduct(long product) {
            take((int) product);
            high = (int) (product >>> 32);
        }

        private void takeQuotient(long quotient, long least, long greatest) {
            long nearest = Math.max(least, Math.min(greatest, quotient));
            take((int) nearest);
            overflow = nearest == quotient ? 0 : 1;
        }

        /** Digit by digit, as a long has no room for 64 bits without sign; too large: just 2^32. */
        private static long quotientWithoutSign(long high, int low, long divisor) {
            if (high >= divisor) {
                return LOW_WORD + 1;
            }
            long rest = high;
            long quotient = 0;
            for (int bit = 31; bit >= 0; bit--) {
                rest = rest << 1 | low >>> bit & 1;
                quotient <<= 1;
                if (rest >= divisor) {
                    rest -= divisor;
                    quotient |= 1;
                }
            }
            return quotient;
        }

        private static long quotientWithSign(int high, int low, int divisor) {
            long dividend = (long) high << 32 | low & LOW_WORD;
            if (divisor == 0 || divisor == -1 && dividend == LEAST_LONG) {
                // 2^63 has no room in a long; any number above the ints stands for it.
                return GREATEST_INT + 1;
            }
            return dividend / divisor;
        }
    }

    /** What a program sees of the machine, and the steps that change it. */
    private static final class Processor {
        static final int NOT_HALTED = -1;
        static final int LAST_VIEW = 11;

        private static final int NO_TRAP = -1;
        private static final int NO_WORD_THERE = 1;
        private static final int NO_INSTRUCTION = 2;
        private static final int NOT_ALLOWED = 3;
        private static final int NO_WINDOW_BELOW = 5;
        private static final int NO_WINDOW_ABOVE = 6;
        private static final int NO_MULTIPLE = 7;
        private static final int NO_DATA_THERE = 9;
        private static final int DIVISION_BY_ZERO = 42;
        private static final int FIRST_OF_TICC = 128;

        private static final int ALWAYS = 8;
        private static final int BASE_BITS = 0xFFFFF000;
        /** The octets that each op3 of op 3 moves; 0: there is no such. */
        private static final int[] OCTETS_MOVED = {4, 1, 2, 8, 4, 1, 2, 8, 0, 1, 2, 0, 0, 1, 0, 4};

        private final Memory memory;
        private final Registers registers;
        private final Reckoner reckoner;
        private int window;
        /** 8 N + 4 Z + 2 V + C. */
        private int flags;
        private int y;
        private int invalid;
        private int inKernel;
        private int wasInKernel;
        private int trapsOn;
        private int base;
        private int pc;
        private int next;
        /** What NEXT will be if the word of this step does not trap. */
        private int afterNext;
        private boolean annulled;
        private int halted;
        private int steps;
        private int traps;

        Processor(Memory memory) {
            this.memory = memory;
            registers = new Registers();
            reckoner = new Reckoner();
            reset(0);
        }

        void reset(int address) {
            registers.clear();
            window = 0;
            flags = 0;
            y = 0;
            invalid = 0;
            changeMode(1, 0, 0);
            base = 0;
            pc = address;
            next = address + WORD_OCTETS;
            annulled = false;
            halted = NOT_HALTED;
            steps = 0;
            traps = 0;
        }

        boolean hasHalted() {
            return halted != NOT_HALTED;
        }

        void changeMode(int kernel, int kernelBefore, int on) {
            inKernel = kernel;
            wasInKernel = kernelBefore;
            trapsOn = on;
        }

        void changeBase(int value) {
            base = value & BASE_BITS;
        }

        int view(int what) {
            switch (what) {
                case 0: return pc;
                case 1: return next;
                case 2: return window;
                case 3: return flags;
                case 4: return y;
                case 5: return invalid;
                case 6: return 4 * inKernel + 2 * wasInKernel + trapsOn;
                case 7: return base;
                case 8: return halted;
                case 9: return steps;
                case 10: return traps;
                default: return annulled ? 1 : 0;
            }
        }

        void step() {
            steps++;
            afterNext = next + WORD_OCTETS;
            int trap = NO_TRAP;
            if (annulled) {
                annulled = false;
            } else {
                trap = perform();
            }
            if (trap == NO_TRAP) {
                pc = next;
                next = afterNext;
            } else {
                takeTrap(trap);
            }
        }

        private void takeTrap(int trap) {
            traps++;
            if (trapsOn == 0) {
                halted = trap;
                return;
            }
            changeMode(1, inKernel, 0);
            window = windowBelow();
            write(17, pc);
            write(18, next);
            pc = base + 16 * trap;
            next = pc + WORD_OCTETS;
        }

        /** Does the word at PC. Like all that it calls: the trap, before anything is changed, or NO_TRAP. */
        private int perform() {
            if ((pc & WORD_OCTETS - 1) != 0) {
                return NO_MULTIPLE;
            }
            if (!memory.holds(pc, WORD_OCTETS)) {
                return NO_WORD_THERE;
            }
            int word = memory.load(pc, WORD_OCTETS);
            switch (word >>> 30) {
                case 0: return sethiOrBranch(word);
                case 1: return call(word);
                case 2: return operate(word);
                default: return access(word);
            }
        }

        private int call(int word) {
            afterNext = pc + (word << 2);
            write(15, pc);
            return NO_TRAP;
        }

        private int sethiOrBranch(int word) {
            switch (word >>> 22 & 7) {
                case 2:
                    branch(word);
                    return NO_TRAP;
                case 4:
                    return deliver(word, word << 10);
                default:
                    return NO_INSTRUCTION;
            }
        }

        private void branch(int word) {
            int condition = word >>> 25 & 15;
            boolean goes = isMet(condition);
            if (goes) {
                afterNext = pc + (word << 10 >> 8);
            }
            boolean mayAnnul = (word >>> 29 & 1) == 1;
            annulled = mayAnnul && (!goes || condition == ALWAYS);
        }

        private boolean isMet(int condition) {
            boolean carry = (flags & 1) != 0;
            boolean overflow = (flags & 2) != 0;
            boolean zero = (flags & 4) != 0;
            boolean negative = (flags & 8) != 0;
            boolean met;
            switch (condition & 7) {
                case 1: met = zero; break;
                case 2: met = zero || negative != overflow; break;
                case 3: met = negative != overflow; break;
                case 4: met = carry || zero; break;
                case 5: met = carry; break;
                case 6: met = negative; break;
                case 7: met = overflow; break;
                default: met = false; break;
            }
            return condition >= 8 ? !met : met;
        }

        private int operate(int word) {
            int op3 = word >>> 19 & 63;
            int a = read(word >>> 14 & 31);
            int b = secondOperand(word);
            if (op3 < 32) {
                return reckonInto(word, op3, a, b);
            }
            switch (op3) {
                case 36: return multiplyStep(word, a, b);
                case 37: return deliver(word, a << (b & 31));
                case 38: return deliver(word, a >>> (b & 31));
                case 39: return deliver(word, a >> (b & 31));
                case 40: return (word >>> 14 & 31) == 0 ? deliver(word, y) : NO_INSTRUCTION;
                case 41:
                case 42:
                case 43: return readSpecial(word, op3);
                case 48: return writeY(word, a ^ b);
                case 49:
                case 50:
                case 51: return writeSpecial(op3, a ^ b);
                case 56: return jump(word, a + b);
                case 57: return returnFromTrap(a + b);
                case 58: return isMet(word >>> 25 & 15) ? FIRST_OF_TICC + (a + b & 127) : NO_TRAP;
                case 60: return moveWindow(word, windowBelow(), NO_WINDOW_BELOW, a + b);
                case 61: return moveWindow(word, windowAbove(), NO_WINDOW_ABOVE, a + b);
                default: return NO_INSTRUCTION;
            }
        }

        private int reckonInto(int word, int op3, int a, int b) {
            int kind = op3 & 15;
            if (kind == 9 || kind == 13) {
                return NO_INSTRUCTION;
            }
            if (kind >= Reckoner.UDIV && b == 0) {
                return DIVISION_BY_ZERO;
            }
            reckoner.reckon(kind, a, b, flags & 1, y);
            if (kind == Reckoner.UMUL || kind == Reckoner.SMUL) {
                y = reckoner.high;
            }
            if (op3 >= 16) {
                flags = reckoner.flags();
            }
            return deliver(word, reckoner.result);
        }

        private int multiplyStep(int word, int a, int b) {
            int highest = (flags >> 3 ^ flags >> 1) & 1;
            reckoner.add(a >>> 1 | highest << 31, (y & 1) == 0 ? 0 : b, 0);
            flags = reckoner.flags();
            y = y >>> 1 | a << 31;
            return deliver(word, reckoner.result);
        }

        private int readSpecial(int word, int op3) {
            if (inKernel == 0) {
                return NOT_ALLOWED;
            }
            switch (op3) {
                case 41: return deliver(word, flags << 20 | inKernel << 7 | wasInKernel << 6 | trapsOn << 5 | window);
                case 42: return deliver(word, invalid);
                default: return deliver(word, base);
            }
        }

        private int writeY(int word, int value) {
            if ((word >>> 25 & 31) != 0) {
                return NO_INSTRUCTION;
            }
            y = value;
            return NO_TRAP;
        }

        private int writeSpecial(int op3, int value) {
            if (inKernel == 0) {
                return NOT_ALLOWED;
            }
            switch (op3) {
                case 49:
                    return writeStatus(value);
                case 50:
                    invalid = value & 15;
                    return NO_TRAP;
                default:
                    changeBase(value);
                    return NO_TRAP;
            }
        }

        private int writeStatus(int value) {
            if ((value & 31) >= WINDOWS) {
                return NO_INSTRUCTION;
            }
            flags = value >>> 20 & 15;
            changeMode(value >>> 7 & 1, value >>> 6 & 1, value >>> 5 & 1);
            window = value & 31;
            return NO_TRAP;
        }

        private int jump(int word, int target) {
            if ((target & WORD_OCTETS - 1) != 0) {
                return NO_MULTIPLE;
            }
            afterNext = target;
            return deliver(word, pc);
        }

        /** With traps off a trap halts, which is all that this word asks for then. */
        private int returnFromTrap(int target) {
            if (inKernel == 0) {
                return NOT_ALLOWED;
            }
            if (trapsOn == 1) {
                return NO_INSTRUCTION;
            }
            if (isInvalid(windowAbove())) {
                return NO_WINDOW_ABOVE;
            }
            if ((target & WORD_OCTETS - 1) != 0) {
                return NO_MULTIPLE;
            }
            afterNext = target;
            window = windowAbove();
            changeMode(wasInKernel, wasInKernel, 1);
            return NO_TRAP;
        }

        private int moveWindow(int word, int target, int trap, int value) {
            if (isInvalid(target)) {
                return trap;
            }
            window = target;
            return deliver(word, value);
        }

        private int access(int word) {
            int op3 = word >>> 19 & 63;
            int octets = op3 < OCTETS_MOVED.length ? OCTETS_MOVED[op3] : 0;
            int rd = word >>> 25 & 31;
            int address = read(word >>> 14 & 31) + secondOperand(word);
            if (octets == 0 || octets == 8 && (rd & 1) == 1) {
                return NO_INSTRUCTION;
            }
            if ((address & octets - 1) != 0) {
                return NO_MULTIPLE;
            }
            if (!memory.holds(address, octets)) {
                return NO_DATA_THERE;
            }
            move(op3, rd, address);
            return NO_TRAP;
        }

        private void move(int op3, int rd, int address) {
            switch (op3) {
                case 0: write(rd, memory.load(address, 4)); break;
                case 1: write(rd, memory.load(address, 1)); break;
                case 2: write(rd, memory.load(address, 2)); break;
                case 3: loadTwo(rd, address); break;
                case 4: memory.store(address, 4, read(rd)); break;
                case 5: memory.store(address, 1, read(rd)); break;
                case 6: memory.store(address, 2, read(rd)); break;
                case 7: storeTwo(rd, address); break;
                case 9: write(rd, memory.load(address, 1) << 24 >> 24); break;
                case 10: write(rd, memory.load(address, 2) << 16 >> 16); break;
                case 13: exchange(rd, address, 1, 255); break;
                default: exchange(rd, address, 4, read(rd)); break;
            }
        }

        private void loadTwo(int rd, int address) {
            write(rd, memory.load(address, WORD_OCTETS));
            write(rd + 1, memory.load(address + WORD_OCTETS, WORD_OCTETS));
        }

        private void storeTwo(int rd, int address) {
            memory.store(address, WORD_OCTETS, read(rd));
            memory.store(address + WORD_OCTETS, WORD_OCTETS, read(rd + 1));
        }

        private void exchange(int rd, int address, int octets, int value) {
            int before = memory.load(address, octets);
            memory.store(address, octets, value);
            write(rd, before);
        }

        private int secondOperand(int word) {
            boolean isNumber = (word >>> 13 & 1) == 1;
            return isNumber ? word << 19 >> 19 : read(word & 31);
        }

        private int deliver(int word, int value) {
            write(word >>> 25 & 31, value);
            return NO_TRAP;
        }

        private int read(int number) {
            return registers.read(window, number);
        }

        private void write(int number, int value) {
            registers.write(window, number, value);
        }

        private int windowBelow() {
            return (window + WINDOWS - 1) % WINDOWS;
        }

        private int windowAbove() {
            return (window + 1) % WINDOWS;
        }

        private boolean isInvalid(int number) {
            return (invalid >>> number & 1) == 1;
        }
    }

    /**
     * The line of text and its translation. Reading goes from left to right; once a place is wrong,
     * all that would read on passes, so the first wrong place stays.
     */
    private static final class Assembler {
        static final int NOTHING_WRONG = -1;

        private static final int MOST_LETTERS = 40;
        private static final int FIRST_LETTER = 32;
        private static final int LAST_LETTER = 126;

        // A name's index in its row is its op3 (or cond), from the row's first one on; - names none.
        private static final String PLAIN = "add and or xor sub andn orn xnor addx - umul smul subx - udiv sdiv";
        private static final String WITH_FLAGS =
            "addcc andcc orcc xorcc subcc andncc orncc xnorcc addxcc - umulcc smulcc subxcc - udivcc sdivcc";
        private static final int FIRST_WITH_FLAGS = 16;
        private static final String SHIFTS_AND_READS = "mulscc sll srl sra rdy rdpsr rdwim rdtbr";
        private static final int FIRST_SHIFT = 36;
        private static final int FIRST_READ = 40;
        private static final String WRITES = "wry wrpsr wrwim wrtbr";
        private static final int FIRST_WRITE = 48;
        private static final String JUMPS = "jmpl rett - - save restore";
        private static final int FIRST_JUMP = 56;
        private static final int RETT = 57;
        private static final int TICC = 58;
        private static final String ACCESSES = "ld ldub lduh ldd st stb sth std - ldsb ldsh - - ldstub - swap";
        private static final int FIRST_STORE = 4;
        private static final int LAST_STORE = 7;
        private static final String CONDITIONS = "n e le l leu cs neg vs a ne g ge gu cc pos vc";
        private static final String OTHERS = "nop sethi call";

        private static final int OPERATION = 2 << 30;
        private static final int ACCESS = 3 << 30;
        private static final int CALL = 1 << 30;
        private static final int SETHI = 4 << 22;
        private static final int BRANCH = 2 << 22;
        private static final int ANNUL = 1 << 29;
        private static final int IS_NUMBER = 1 << 13;

        private final char[] line;
        private int length;
        /** Where reading stands. */
        private int at;
        private int wrong;

        Assembler() {
            line = new char[MOST_LETTERS];
            wrong = NOTHING_WRONG;
        }

        /** How many letters stand before the first 0; none if something else stands there. */
        static int lettersIn(long octets) {
            int count = 0;
            while (count < 8 && octetOf(octets, count) != 0) {
                int octet = octetOf(octets, count);
                if (octet < FIRST_LETTER || octet > LAST_LETTER) {
                    return 0;
                }
                count++;
            }
            return count;
        }

        private static int octetOf(long octets, int index) {
            return (int) (octets >>> 8 * index) & 255;
        }

        boolean hasRoomFor(int count) {
            return length + count <= MOST_LETTERS;
        }

        void append(long octets, int count) {
            for (int k = 0; k < count; k++) {
                line[length] = (char) octetOf(octets, k);
                length++;
            }
        }

        /** The line's word, if nothing is wrong then; the line is empty afterwards. */
        int translate() {
            at = 0;
            wrong = NOTHING_WRONG;
            while (at < length && line[at] >= 'a' && line[at] <= 'z') {
                at++;
            }
            int made = instruction();
            if (isGood() && at < length) {
                wrong = at;
            }
            length = 0;
            return made;
        }

        private int instruction() {
            int op3 = operationNamed();
            if (op3 >= 0) {
                return operation(op3);
            }
            op3 = indexIn(ACCESSES, 0);
            if (op3 >= 0) {
                return access(op3);
            }
            int condition = conditionBehind('b');
            if (condition >= 0) {
                return branch(condition);
            }
            condition = conditionBehind('t');
            if (condition >= 0) {
                return sourcesOnly(OPERATION | condition << 25 | TICC << 19);
            }
            switch (indexIn(OTHERS, 0)) {
                case 0: return SETHI;
                case 1: return sethi();
                case 2: return call();
                default: break;
            }
            wrong = 0;
            return 0;
        }

        private int operationNamed() {
            int index = indexIn(PLAIN, 0);
            if (index >= 0) {
                return index;
            }
            index = indexIn(WITH_FLAGS, 0);
            if (index >= 0) {
                return FIRST_WITH_FLAGS + index;
            }
            index = indexIn(SHIFTS_AND_READS, 0);
            if (index >= 0) {
                return FIRST_SHIFT + index;
            }
            index = indexIn(WRITES, 0);
            if (index >= 0) {
                return FIRST_WRITE + index;
            }
            index = indexIn(JUMPS, 0);
            return index >= 0 ? FIRST_JUMP + index : -1;
        }

        private int conditionBehind(char first) {
            return at > 0 && line[0] == first ? indexIn(CONDITIONS, 1) : -1;
        }

        /** The index among the names, with blanks between, of what the line has from there to here; or -1. */
        private int indexIn(String names, int from) {
            int index = 0;
            int nameStart = 0;
            for (int k = 0; k <= names.length(); k++) {
                if (k == names.length() || names.charAt(k) == ' ') {
                    if (isSpelled(names, nameStart, k, from)) {
                        return index;
                    }
                    index++;
                    nameStart = k + 1;
                }
            }
            return -1;
        }

        private boolean isSpelled(String names, int nameStart, int nameEnd, int from) {
            if (nameEnd - nameStart != at - from) {
                return false;
            }
            for (int k = 0; k < at - from; k++) {
                if (names.charAt(nameStart + k) != line[from + k]) {
                    return false;
                }
            }
            return true;
        }

        private int operation(int op3) {
            int made = OPERATION | op3 << 19;
            if (op3 >= FIRST_READ && op3 < FIRST_WRITE) {
                expect(' ');
                return made | registerNumber() << 25;
            }
            if (op3 == RETT || op3 >= FIRST_WRITE && op3 < FIRST_JUMP) {
                return sourcesOnly(made);
            }
            return sourcesAndTarget(made);
        }

        private int access(int op3) {
            int made = ACCESS | op3 << 19;
            if (op3 < FIRST_STORE || op3 > LAST_STORE) {
                return sourcesAndTarget(made);
            }
            expect(' ');
            made |= registerNumber() << 25;
            expect(',');
            return made | sources();
        }

        private int sourcesAndTarget(int made) {
            expect(' ');
            int both = sources();
            expect(',');
            return made | both | registerNumber() << 25;
        }

        private int sourcesOnly(int made) {
            expect(' ');
            return made | sources();
        }

        private int branch(int condition) {
            expect(' ');
            int made = condition << 25 | BRANCH | withSign(22);
            if (isGood() && at < length) {
                expect(',');
                expect('a');
                made |= ANNUL;
            }
            return made;
        }

        private int call() {
            expect(' ');
            return CALL | withSign(30);
        }

        private int sethi() {
            expect(' ');
            int number = number(0, (1 << 22) - 1);
            expect(',');
            return SETHI | number | registerNumber() << 25;
        }

        private int sources() {
            int first = registerNumber() << 14;
            expect(',');
            if (at < length && line[at] == '%') {
                return first | registerNumber();
            }
            return first | IS_NUMBER | withSign(13);
        }

        private int registerNumber() {
            int from = at;
            expect('%');
            int number = digits(2);
            checkRange(number, 0, REGISTERS - 1, from);
            return number;
        }

        private int withSign(int bits) {
            int half = 1 << bits - 1;
            return number(-half, half - 1) & (1 << bits) - 1;
        }

        private int number(int least, int greatest) {
            int from = at;
            boolean isNegative = isGood() && at < length && line[at] == '-';
            if (isNegative) {
                at++;
            }
            int size = digits(9);
            int number = isNegative ? -size : size;
            checkRange(number, least, greatest, from);
            return number;
        }

        private void checkRange(int number, int least, int greatest, int from) {
            if (isGood() && (number < least || number > greatest)) {
                wrong = from;
            }
        }

        /** One digit at least. */
        private int digits(int most) {
            if (!isGood()) {
                return 0;
            }
            int from = at;
            int number = 0;
            while (at < length && at - from < most && line[at] >= '0' && line[at] <= '9') {
                number = 10 * number + line[at] - '0';
                at++;
            }
            if (at == from) {
                wrong = at;
            }
            return number;
        }

        private void expect(char letter) {
            if (!isGood()) {
                return;
            }
            if (at < length && line[at] == letter) {
                at++;
            } else {
                wrong = at;
            }
        }

        private boolean isGood() {
            return wrong == NOTHING_WRONG;
        }
    }
}

/**
 * A processor with windows of registers, and its assembler.
 *
 * Nothing but exceptions is made after the constructor: all calls of a run share one room.
 */
public final class WindowMachine {
    private static final int WORD_OCTETS = 4;
    private static final int WINDOWS = 4;
    private static final int REGISTERS = 32;
    private static final int MOST_STEPS = 200;

    private final Memory memory;
    private final Assembler assembler;
    private final Processor processor;

    public WindowMachine() {
        memory = new Memory();
        assembler = new Assembler();
        processor = new Processor(memory);
    }

    public int letters(long w) throws IllegalArgumentException, IndexOutOfBoundsException {
        int count = Assembler.lettersIn(w);
        if (count == 0) {
            throw new IllegalArgumentException("an octet is no letter");
        }
        if (!assembler.hasRoomFor(count)) {
            throw new IndexOutOfBoundsException("the line would be too long");
        }
        assembler.append(w, count);
        return assembler.length;
    }

    public int assemble(int a) throws IllegalArgumentException, IndexOutOfBoundsException {
        int made = assembler.translate();
        if (assembler.wrong != Assembler.NOTHING_WRONG) {
            throw new IllegalArgumentException("the line is no instruction");
        }
        checkWordAt(a);
        memory.store(a, WORD_OCTETS, made);
        return made;
    }

    public int place() {
        return assembler.wrong;
    }

    public int put(int a, int v) throws IndexOutOfBoundsException {
        checkWordAt(a);
        int before = memory.load(a, WORD_OCTETS);
        memory.store(a, WORD_OCTETS, v);
        return before;
    }

    public int word(int a) throws IndexOutOfBoundsException {
        checkWordAt(a);
        return memory.load(a, WORD_OCTETS);
    }

    public int run(int n) throws IllegalArgumentException, IllegalStateException {
        if (n < 1 || n > MOST_STEPS) {
            throw new IllegalArgumentException("the number of steps is not 1 to 200");
        }
        if (processor.hasHalted()) {
            throw new IllegalStateException("the processor has halted");
        }
        int done = 0;
        while (done < n && !processor.hasHalted()) {
            processor.step();
            done++;
        }
        return done;
    }

    public int start(int a) throws IllegalArgumentException {
        if (!isWordAt(a)) {
            throw new IllegalArgumentException("there is no word at this address");
        }
        int before = processor.halted;
        processor.reset(a);
        return before;
    }

    public int set(int w, int r, int v) throws IllegalArgumentException {
        checkRegister(w, r);
        int before = processor.registers.read(w, r);
        processor.registers.write(w, r, v);
        return before;
    }

    public int register(int w, int r) throws IllegalArgumentException {
        checkRegister(w, r);
        return processor.registers.read(w, r);
    }

    public int state(int what) throws IllegalArgumentException {
        if (what < 0 || what > Processor.LAST_VIEW) {
            throw new IllegalArgumentException("the state has no such part");
        }
        return processor.view(what);
    }

    public int mode(int flags, int y, int invalid, int base, int mode) throws IllegalArgumentException {
        if (flags < 0 || flags > 15 || invalid < 0 || invalid > 15 || mode < 0 || mode > 7) {
            throw new IllegalArgumentException("flags or invalid is not 0 to 15, or mode not 0 to 7");
        }
        processor.adopt(flags, y, invalid, base, mode);
        return processor.window;
    }

    private boolean isWordAt(int a) {
        return (a & WORD_OCTETS - 1) == 0 && memory.holds(a, WORD_OCTETS);
    }

    private void checkWordAt(int a) {
        if (!isWordAt(a)) {
            throw new IndexOutOfBoundsException("there is no word at this address");
        }
    }

    private static void checkRegister(int w, int r) {
        if (r < 0 || r >= REGISTERS || w < 0 || w >= WINDOWS) {
            throw new IllegalArgumentException("there is no such register");
        }
    }

    /** 1024 octets, held as words because each element counts in the room. */
    private static final class Memory {
        private static final int OCTETS = 1024;

        private final int[] words;

        Memory() {
            words = new int[OCTETS / WORD_OCTETS];
        }

        boolean holds(int address, int octets) {
            return address >= 0 && address <= OCTETS - octets;
        }

        /** The 1, 2 or 4 octets at an address that is a multiple of their number, without sign. */
        int load(int address, int octets) {
            return words[address / WORD_OCTETS] >>> shiftOf(address, octets) & maskOf(octets);
        }

        void store(int address, int octets, int value) {
            int shift = shiftOf(address, octets);
            int mask = maskOf(octets) << shift;
            int index = address / WORD_OCTETS;
            words[index] = words[index] & ~mask | value << shift & mask;
        }

        private static int shiftOf(int address, int octets) {
            return 8 * (WORD_OCTETS - octets - (address & WORD_OCTETS - 1));
        }

        private static int maskOf(int octets) {
            return octets == WORD_OCTETS ? -1 : (1 << 8 * octets) - 1;
        }
    }

    /** The globals, then the outs and the locals of each window. */
    private static final class Registers {
        private static final int GROUP = 8;

        private final int[] cells;

        Registers() {
            cells = new int[GROUP + 2 * GROUP * WINDOWS];
        }

        int read(int window, int number) {
            return cells[cellOf(window, number)];
        }

        void write(int window, int number, int value) {
            if (number != 0) {
                cells[cellOf(window, number)] = value;
            }
        }

        void clear() {
            for (int k = 0; k < cells.length; k++) {
                cells[k] = 0;
            }
        }

        /** A window's ins lie where the outs of the window above do, and round from the last to the first. */
        private static int cellOf(int window, int number) {
            if (number < GROUP) {
                return number;
            }
            return GROUP + (2 * GROUP * window + number - GROUP) % (2 * GROUP * WINDOWS);
        }
    }

    /** The document's numbers of op 2 (first those of op3 up to 31, where 16 more sets the flags) and op 3. */
    private static final class Codes {
        static final int AND = 1;
        static final int OR = 2;
        static final int XOR = 3;
        static final int SUB = 4;
        static final int ANDN = 5;
        static final int ORN = 6;
        static final int XNOR = 7;
        static final int ADDX = 8;
        static final int FIRST_GAP = 9;
        static final int UMUL = 10;
        static final int SMUL = 11;
        static final int SUBX = 12;
        static final int SECOND_GAP = 13;
        static final int UDIV = 14;
        static final int SDIV = 15;
        static final int FLAGGED = 16;
        static final int MULSCC = 36;
        static final int SLL = 37;
        static final int SRL = 38;
        static final int SRA = 39;
        static final int RDY = 40;
        static final int RDPSR = 41;
        static final int RDWIM = 42;
        static final int RDTBR = 43;
        static final int WRY = 48;
        static final int WRPSR = 49;
        static final int WRWIM = 50;
        static final int WRTBR = 51;
        static final int JMPL = 56;
        static final int RETT = 57;
        static final int TICC = 58;
        static final int SAVE = 60;
        static final int RESTORE = 61;

        static final int LD = 0;
        static final int LDUB = 1;
        static final int LDUH = 2;
        static final int LDD = 3;
        static final int ST = 4;
        static final int STB = 5;
        static final int STH = 6;
        static final int STD = 7;
        static final int LDSB = 9;
        static final int LDSH = 10;
        static final int LDSTUB = 13;
        static final int SWAP = 15;
    }

    /** Reckons apart from the processor, whose flags a word without cc must leave as they are. */
    private static final class Reckoner {
        private static final long LOW_WORD = 0xFFFFFFFFL;
        private static final long GREATEST_INT = 0x7FFFFFFFL;
        private static final long LEAST_INT = -0x80000000L;
        private static final long LEAST_LONG = 1L << 63;

        private int result;
        /** What multiplying leaves for Y. */
        private int high;
        private int overflow;
        private int carry;

        /** For a kind that there is, dividing by no 0. */
        void reckon(int kind, int a, int b, int carryIn, int y) {
            switch (kind) {
                case Codes.AND: take(a & b); break;
                case Codes.OR: take(a | b); break;
                case Codes.XOR: take(a ^ b); break;
                case Codes.SUB: subtract(a, b, 0); break;
                case Codes.ANDN: take(a & ~b); break;
                case Codes.ORN: take(a | ~b); break;
                case Codes.XNOR: take(~(a ^ b)); break;
                case Codes.ADDX: add(a, b, carryIn); break;
                case Codes.UMUL: takeProduct((a & LOW_WORD) * (b & LOW_WORD)); break;
                case Codes.SMUL: takeProduct((long) a * b); break;
                case Codes.SUBX: subtract(a, b, carryIn); break;
                case Codes.UDIV: takeQuotient(quotientWithoutSign(y & LOW_WORD, a, b & LOW_WORD), 0, LOW_WORD); break;
                case Codes.SDIV: takeQuotient(quotientWithSign(y, a, b), LEAST_INT, GREATEST_INT); break;
                default: add(a, b, 0); break;
            }
        }

        void add(int a, int b, int carryIn) {
            take(a + b + carryIn);
            overflow = (~(a ^ b) & (a ^ result)) >>> 31;
            carry = (int) ((a & LOW_WORD) + (b & LOW_WORD) + carryIn >>> 32);
        }

        private void subtract(int a, int b, int borrowIn) {
            take(a - b - borrowIn);
            overflow = ((a ^ b) & (a ^ result)) >>> 31;
            carry = (a & LOW_WORD) < (b & LOW_WORD) + borrowIn ? 1 : 0;
        }

        /** N Z V C of what was reckoned last. */
        int flags() {
            int negative = result < 0 ? 8 : 0;
            int zero = result == 0 ? 4 : 0;
            return negative | zero | overflow << 1 | carry;
        }

        private void take(int value) {
            result = value;
            overflow = 0;
            carry = 0;
        }

        private void takeProduct(long product) {
            take((int) product);
            high = (int) (product >>> 32);
        }

        private void takeQuotient(long quotient, long least, long greatest) {
            long nearest = Math.max(least, Math.min(greatest, quotient));
            take((int) nearest);
            overflow = nearest == quotient ? 0 : 1;
        }

        /** Digit by digit, as a long has no room for 64 bits without sign; too large: just 2^32. */
        private static long quotientWithoutSign(long high, int low, long divisor) {
            if (high >= divisor) {
                return LOW_WORD + 1;
            }
            long rest = high;
            long quotient = 0;
            for (int bit = 31; bit >= 0; bit--) {
                rest = rest << 1 | low >>> bit & 1;
                quotient <<= 1;
                if (rest >= divisor) {
                    rest -= divisor;
                    quotient |= 1;
                }
            }
            return quotient;
        }

        private static long quotientWithSign(int high, int low, int divisor) {
            long dividend = (long) high << 32 | low & LOW_WORD;
            if (divisor == 0 || divisor == -1 && dividend == LEAST_LONG) {
                // 2^63 has no room in a long; any number above the ints stands for it.
                return GREATEST_INT + 1;
            }
            return dividend / divisor;
        }
    }

    /** What a program sees of the machine, and the steps that change it. */
    private static final class Processor {
        static final int NOT_HALTED = -1;
        static final int LAST_VIEW = 11;

        private static final int NO_TRAP = -1;
        private static final int NO_WORD_THERE = 1;
        private static final int NO_INSTRUCTION = 2;
        private static final int NOT_ALLOWED = 3;
        private static final int NO_WINDOW_BELOW = 5;
        private static final int NO_WINDOW_ABOVE = 6;
        private static final int NO_MULTIPLE = 7;
        private static final int NO_DATA_THERE = 9;
        private static final int DIVISION_BY_ZERO = 42;
        private static final int FIRST_OF_TICC = 128;

        private static final int IN_KERNEL = 4;
        private static final int ALWAYS = 8;
        private static final int BASE_BITS = 0xFFFFF000;
        /** The octets that each op3 of op 3 moves; 0: there is no such. */
        private static final int[] OCTETS_MOVED = {4, 1, 2, 8, 4, 1, 2, 8, 0, 1, 2, 0, 0, 1, 0, 4};

        private final Memory memory;
        private final Registers registers;
        private final Reckoner reckoner;
        private int window;
        /** 8 N + 4 Z + 2 V + C. */
        private int flags;
        private int y;
        private int invalid;
        private int inKernel;
        private int wasInKernel;
        private int trapsOn;
        private int base;
        private int pc;
        private int next;
        /** What NEXT will be if the word of this step does not trap. */
        private int afterNext;
        private boolean annulled;
        private int halted;
        private int steps;
        private int traps;

        Processor(Memory memory) {
            this.memory = memory;
            registers = new Registers();
            reckoner = new Reckoner();
            reset(0);
        }

        void reset(int address) {
            registers.clear();
            window = 0;
            adopt(0, 0, 0, 0, IN_KERNEL);
            pc = address;
            next = address + WORD_OCTETS;
            annulled = false;
            halted = NOT_HALTED;
            steps = 0;
            traps = 0;
        }

        boolean hasHalted() {
            return halted != NOT_HALTED;
        }

        void adopt(int newFlags, int newY, int newInvalid, int newBase, int newMode) {
            flags = newFlags;
            y = newY;
            invalid = newInvalid;
            base = newBase & BASE_BITS;
            changeMode(newMode >> 2, newMode >> 1 & 1, newMode & 1);
        }

        private void changeMode(int kernel, int kernelBefore, int on) {
            inKernel = kernel;
            wasInKernel = kernelBefore;
            trapsOn = on;
        }

        int view(int what) {
            switch (what) {
                case 0: return pc;
                case 1: return next;
                case 2: return window;
                case 3: return flags;
                case 4: return y;
                case 5: return invalid;
                case 6: return 4 * inKernel + 2 * wasInKernel + trapsOn;
                case 7: return base;
                case 8: return halted;
                case 9: return steps;
                case 10: return traps;
                default: return annulled ? 1 : 0;
            }
        }

        void step() {
            steps++;
            afterNext = next + WORD_OCTETS;
            int trap = NO_TRAP;
            if (annulled) {
                annulled = false;
            } else {
                trap = perform();
            }
            if (trap == NO_TRAP) {
                pc = next;
                next = afterNext;
            } else {
                takeTrap(trap);
            }
        }

        private void takeTrap(int trap) {
            traps++;
            if (trapsOn == 0) {
                halted = trap;
                return;
            }
            changeMode(1, inKernel, 0);
            window = windowBelow();
            registers.write(window, 17, pc);
            registers.write(window, 18, next);
            pc = base + 16 * trap;
            next = pc + WORD_OCTETS;
        }

        /** Does the word at PC. Like all that it calls: the trap, before anything is changed, or NO_TRAP. */
        private int perform() {
            if ((pc & WORD_OCTETS - 1) != 0) {
                return NO_MULTIPLE;
            }
            if (!memory.holds(pc, WORD_OCTETS)) {
                return NO_WORD_THERE;
            }
            int word = memory.load(pc, WORD_OCTETS);
            switch (word >>> 30) {
                case 0: return sethiOrBranch(word);
                case 1: return call(word);
                case 2: return operate(word);
                default: return access(word);
            }
        }

        private int call(int word) {
            afterNext = pc + (word << 2);
            registers.write(window, 15, pc);
            return NO_TRAP;
        }

        private int sethiOrBranch(int word) {
            switch (word >>> 22 & 7) {
                case 2:
                    branch(word);
                    return NO_TRAP;
                case 4:
                    return deliver(word, word << 10);
                default:
                    return NO_INSTRUCTION;
            }
        }

        private void branch(int word) {
            int condition = conditionOf(word);
            boolean goes = isMet(condition);
            if (goes) {
                afterNext = pc + (word << 10 >> 8);
            }
            boolean mayAnnul = (word >>> 29 & 1) == 1;
            annulled = mayAnnul && (!goes || condition == ALWAYS);
        }

        private boolean isMet(int condition) {
            boolean carry = (flags & 1) != 0;
            boolean overflow = (flags & 2) != 0;
            boolean zero = (flags & 4) != 0;
            boolean negative = (flags & 8) != 0;
            boolean met;
            switch (condition & 7) {
                case 1: met = zero; break;
                case 2: met = zero || negative != overflow; break;
                case 3: met = negative != overflow; break;
                case 4: met = carry || zero; break;
                case 5: met = carry; break;
                case 6: met = negative; break;
                case 7: met = overflow; break;
                default: met = false; break;
            }
            return condition >= 8 ? !met : met;
        }

        private int operate(int word) {
            int op3 = op3Of(word);
            int a = registers.read(window, rs1Of(word));
            int b = secondOperand(word);
            if (op3 < 2 * Codes.FLAGGED) {
                return reckonInto(word, op3, a, b);
            }
            switch (op3) {
                case Codes.MULSCC: return multiplyStep(word, a, b);
                case Codes.SLL: return deliver(word, a << (b & 31));
                case Codes.SRL: return deliver(word, a >>> (b & 31));
                case Codes.SRA: return deliver(word, a >> (b & 31));
                case Codes.RDY: return rs1Of(word) == 0 ? deliver(word, y) : NO_INSTRUCTION;
                case Codes.RDPSR:
                case Codes.RDWIM:
                case Codes.RDTBR: return readSpecial(word, op3);
                case Codes.WRY: return writeY(word, a ^ b);
                case Codes.WRPSR:
                case Codes.WRWIM:
                case Codes.WRTBR: return writeSpecial(op3, a ^ b);
                case Codes.JMPL: return jump(word, a + b);
                case Codes.RETT: return returnFromTrap(a + b);
                case Codes.TICC: return isMet(conditionOf(word)) ? FIRST_OF_TICC + (a + b & 127) : NO_TRAP;
                case Codes.SAVE: return moveWindow(word, windowBelow(), NO_WINDOW_BELOW, a + b);
                case Codes.RESTORE: return moveWindow(word, windowAbove(), NO_WINDOW_ABOVE, a + b);
                default: return NO_INSTRUCTION;
            }
        }

        private int reckonInto(int word, int op3, int a, int b) {
            int kind = op3 % Codes.FLAGGED;
            if (kind == Codes.FIRST_GAP || kind == Codes.SECOND_GAP) {
                return NO_INSTRUCTION;
            }
            if ((kind == Codes.UDIV || kind == Codes.SDIV) && b == 0) {
                return DIVISION_BY_ZERO;
            }
            reckoner.reckon(kind, a, b, flags & 1, y);
            if (kind == Codes.UMUL || kind == Codes.SMUL) {
                y = reckoner.high;
            }
            if (op3 >= Codes.FLAGGED) {
                flags = reckoner.flags();
            }
            return deliver(word, reckoner.result);
        }

        private int multiplyStep(int word, int a, int b) {
            int highest = (flags >> 3 ^ flags >> 1) & 1;
            reckoner.add(a >>> 1 | highest << 31, (y & 1) == 0 ? 0 : b, 0);
            flags = reckoner.flags();
            y = y >>> 1 | a << 31;
            return deliver(word, reckoner.result);
        }

        private int readSpecial(int word, int op3) {
            if (inKernel == 0) {
                return NOT_ALLOWED;
            }
            switch (op3) {
                case Codes.RDPSR:
                    return deliver(word, flags << 20 | inKernel << 7 | wasInKernel << 6 | trapsOn << 5 | window);
                case Codes.RDWIM:
                    return deliver(word, invalid);
                default:
                    return deliver(word, base);
            }
        }

        private int writeY(int word, int value) {
            if (rdOf(word) != 0) {
                return NO_INSTRUCTION;
            }
            y = value;
            return NO_TRAP;
        }

        private int writeSpecial(int op3, int value) {
            if (inKernel == 0) {
                return NOT_ALLOWED;
            }
            switch (op3) {
                case Codes.WRPSR:
                    return writeStatus(value);
                case Codes.WRWIM:
                    invalid = value & 15;
                    return NO_TRAP;
                default:
                    base = value & BASE_BITS;
                    return NO_TRAP;
            }
        }

        private int writeStatus(int value) {
            if ((value & 31) >= WINDOWS) {
                return NO_INSTRUCTION;
            }
            flags = value >>> 20 & 15;
            changeMode(value >>> 7 & 1, value >>> 6 & 1, value >>> 5 & 1);
            window = value & 31;
            return NO_TRAP;
        }

        private int jump(int word, int target) {
            if ((target & WORD_OCTETS - 1) != 0) {
                return NO_MULTIPLE;
            }
            afterNext = target;
            return deliver(word, pc);
        }

        /** With traps off a trap halts, which is all that this word asks for then. */
        private int returnFromTrap(int target) {
            if (inKernel == 0) {
                return NOT_ALLOWED;
            }
            if (trapsOn == 1) {
                return NO_INSTRUCTION;
            }
            if (isInvalid(windowAbove())) {
                return NO_WINDOW_ABOVE;
            }
            if ((target & WORD_OCTETS - 1) != 0) {
                return NO_MULTIPLE;
            }
            afterNext = target;
            window = windowAbove();
            changeMode(wasInKernel, wasInKernel, 1);
            return NO_TRAP;
        }

        private int moveWindow(int word, int target, int trap, int value) {
            if (isInvalid(target)) {
                return trap;
            }
            window = target;
            return deliver(word, value);
        }

        private int access(int word) {
            int op3 = op3Of(word);
            int octets = op3 < OCTETS_MOVED.length ? OCTETS_MOVED[op3] : 0;
            int rd = rdOf(word);
            int address = registers.read(window, rs1Of(word)) + secondOperand(word);
            if (octets == 0 || octets == 8 && (rd & 1) == 1) {
                return NO_INSTRUCTION;
            }
            if ((address & octets - 1) != 0) {
                return NO_MULTIPLE;
            }
            if (!memory.holds(address, octets)) {
                return NO_DATA_THERE;
            }
            move(op3, rd, address);
            return NO_TRAP;
        }

        private void move(int op3, int rd, int address) {
            switch (op3) {
                case Codes.LD: registers.write(window, rd, memory.load(address, 4)); break;
                case Codes.LDUB: registers.write(window, rd, memory.load(address, 1)); break;
                case Codes.LDUH: registers.write(window, rd, memory.load(address, 2)); break;
                case Codes.LDD: loadTwo(rd, address); break;
                case Codes.ST: memory.store(address, 4, registers.read(window, rd)); break;
                case Codes.STB: memory.store(address, 1, registers.read(window, rd)); break;
                case Codes.STH: memory.store(address, 2, registers.read(window, rd)); break;
                case Codes.STD: storeTwo(rd, address); break;
                case Codes.LDSB: registers.write(window, rd, memory.load(address, 1) << 24 >> 24); break;
                case Codes.LDSH: registers.write(window, rd, memory.load(address, 2) << 16 >> 16); break;
                case Codes.LDSTUB: exchange(rd, address, 1, 255); break;
                case Codes.SWAP: exchange(rd, address, 4, registers.read(window, rd)); break;
                default: break;
            }
        }

        private void loadTwo(int rd, int address) {
            registers.write(window, rd, memory.load(address, WORD_OCTETS));
            registers.write(window, rd + 1, memory.load(address + WORD_OCTETS, WORD_OCTETS));
        }

        private void storeTwo(int rd, int address) {
            memory.store(address, WORD_OCTETS, registers.read(window, rd));
            memory.store(address + WORD_OCTETS, WORD_OCTETS, registers.read(window, rd + 1));
        }

        private void exchange(int rd, int address, int octets, int value) {
            int before = memory.load(address, octets);
            memory.store(address, octets, value);
            registers.write(window, rd, before);
        }

        private int secondOperand(int word) {
            boolean isNumber = (word >>> 13 & 1) == 1;
            return isNumber ? word << 19 >> 19 : registers.read(window, word & 31);
        }

        private int deliver(int word, int value) {
            registers.write(window, rdOf(word), value);
            return NO_TRAP;
        }

        private static int rdOf(int word) {
            return word >>> 25 & 31;
        }

        private static int conditionOf(int word) {
            return word >>> 25 & 15;
        }

        private static int op3Of(int word) {
            return word >>> 19 & 63;
        }

        private static int rs1Of(int word) {
            return word >>> 14 & 31;
        }

        private int windowBelow() {
            return (window + WINDOWS - 1) % WINDOWS;
        }

        private int windowAbove() {
            return (window + 1) % WINDOWS;
        }

        private boolean isInvalid(int number) {
            return (invalid >>> number & 1) == 1;
        }
    }

    /**
     * The line of text and its translation. Reading goes from left to right; once a place is wrong,
     * all that would read on passes, so the first wrong place stays.
     */
    private static final class Assembler {
        static final int NOTHING_WRONG = -1;

        private static final int MOST_LETTERS = 40;
        private static final int FIRST_LETTER = 32;
        private static final int LAST_LETTER = 126;

        // A name's index in its row is its op3 (or cond), from the row's first one on; - names none.
        private static final String PLAIN = "add and or xor sub andn orn xnor addx - umul smul subx - udiv sdiv";
        private static final String WITH_FLAGS =
            "addcc andcc orcc xorcc subcc andncc orncc xnorcc addxcc - umulcc smulcc subxcc - udivcc sdivcc";
        private static final String SHIFTS = "mulscc sll srl sra";
        private static final String READS = "rdy rdpsr rdwim rdtbr";
        private static final String WRITES = "wry wrpsr wrwim wrtbr";
        private static final String JUMPS = "jmpl rett - - save restore";
        private static final String ACCESSES = "ld ldub lduh ldd st stb sth std - ldsb ldsh - - ldstub - swap";
        private static final String CONDITIONS = "n e le l leu cs neg vs a ne g ge gu cc pos vc";
        private static final String OTHERS = "nop sethi call";

        private static final int OPERATION = 2 << 30;
        private static final int ACCESS = 3 << 30;
        private static final int CALL = 1 << 30;
        private static final int SETHI = 4 << 22;
        private static final int BRANCH = 2 << 22;
        private static final int ANNUL = 1 << 29;
        private static final int IS_NUMBER = 1 << 13;

        // What comes behind a name.
        private static final int NOTHING = 0;
        private static final int TARGET = 1;
        private static final int SOURCES = 2;
        private static final int SOURCES_TARGET = 3;
        private static final int TARGET_SOURCES = 4;
        private static final int HIGHER_BITS_TARGET = 5;
        private static final int FAR_DISTANCE = 6;
        private static final int NEAR_DISTANCE = 7;

        private final char[] line;
        private int length;
        /** Where reading stands. */
        private int at;
        private int wrong;
        /** What comes behind the line's name. */
        private int form;

        Assembler() {
            line = new char[MOST_LETTERS];
            wrong = NOTHING_WRONG;
        }

        /** How many letters stand before the first 0; none if something else stands there. */
        static int lettersIn(long octets) {
            int count = 0;
            while (count < 8 && octetOf(octets, count) != 0) {
                int octet = octetOf(octets, count);
                if (octet < FIRST_LETTER || octet > LAST_LETTER) {
                    return 0;
                }
                count++;
            }
            return count;
        }

        private static int octetOf(long octets, int index) {
            return (int) (octets >>> 8 * index) & 255;
        }

        boolean hasRoomFor(int count) {
            return length + count <= MOST_LETTERS;
        }

        void append(long octets, int count) {
            for (int k = 0; k < count; k++) {
                line[length] = (char) octetOf(octets, k);
                length++;
            }
        }

        /** The line's word, if nothing is wrong then; the line is empty afterwards. */
        int translate() {
            at = 0;
            wrong = NOTHING_WRONG;
            while (at < length && line[at] >= 'a' && line[at] <= 'z') {
                at++;
            }
            int made = bitsOfName();
            if (made == 0) {
                wrong = 0;
            } else {
                made |= operands();
            }
            if (isGood() && at < length) {
                wrong = at;
            }
            length = 0;
            return made;
        }

        /** What the name, which ends here, says of the word; 0 if there is no such. Sets the form. */
        private int bitsOfName() {
            int op3 = operationNamed();
            if (op3 >= 0) {
                form = formOf(op3);
                return OPERATION | op3 << 19;
            }
            op3 = indexIn(ACCESSES, 0);
            if (op3 >= 0) {
                form = op3 >= Codes.ST && op3 <= Codes.STD ? TARGET_SOURCES : SOURCES_TARGET;
                return ACCESS | op3 << 19;
            }
            int condition = conditionBehind('b');
            if (condition >= 0) {
                form = NEAR_DISTANCE;
                return BRANCH | condition << 25;
            }
            condition = conditionBehind('t');
            if (condition >= 0) {
                form = SOURCES;
                return OPERATION | condition << 25 | Codes.TICC << 19;
            }
            return bitsOfOthers();
        }

        private int bitsOfOthers() {
            switch (indexIn(OTHERS, 0)) {
                case 0:
                    form = NOTHING;
                    return SETHI;
                case 1:
                    form = HIGHER_BITS_TARGET;
                    return SETHI;
                case 2:
                    form = FAR_DISTANCE;
                    return CALL;
                default:
                    return 0;
            }
        }

        private int operationNamed() {
            int op3 = codeIn(PLAIN, 0);
            op3 = op3 >= 0 ? op3 : codeIn(WITH_FLAGS, Codes.FLAGGED);
            op3 = op3 >= 0 ? op3 : codeIn(SHIFTS, Codes.MULSCC);
            op3 = op3 >= 0 ? op3 : codeIn(READS, Codes.RDY);
            op3 = op3 >= 0 ? op3 : codeIn(WRITES, Codes.WRY);
            return op3 >= 0 ? op3 : codeIn(JUMPS, Codes.JMPL);
        }

        private int codeIn(String names, int first) {
            int index = indexIn(names, 0);
            return index >= 0 ? first + index : -1;
        }

        private static int formOf(int op3) {
            if (op3 >= Codes.RDY && op3 <= Codes.RDTBR) {
                return TARGET;
            }
            if (op3 >= Codes.WRY && op3 <= Codes.WRTBR || op3 == Codes.RETT) {
                return SOURCES;
            }
            return SOURCES_TARGET;
        }

        private int conditionBehind(char first) {
            return at > 0 && line[0] == first ? indexIn(CONDITIONS, 1) : -1;
        }

        /** The index among the names, with blanks between, of what the line has from there to here; or -1. */
        private int indexIn(String names, int from) {
            int index = 0;
            int nameStart = 0;
            for (int k = 0; k <= names.length(); k++) {
                if (k == names.length() || names.charAt(k) == ' ') {
                    if (isSpelled(names, nameStart, k, from)) {
                        return index;
                    }
                    index++;
                    nameStart = k + 1;
                }
            }
            return -1;
        }

        private boolean isSpelled(String names, int nameStart, int nameEnd, int from) {
            if (nameEnd - nameStart != at - from) {
                return false;
            }
            for (int k = 0; k < at - from; k++) {
                if (names.charAt(nameStart + k) != line[from + k]) {
                    return false;
                }
            }
            return true;
        }

        private int operands() {
            if (form == NOTHING) {
                return 0;
            }
            expect(' ');
            switch (form) {
                case TARGET: return target();
                case SOURCES: return sources();
                case SOURCES_TARGET: return behind(sources()) | target();
                case TARGET_SOURCES: return behind(target()) | sources();
                case HIGHER_BITS_TARGET: return behind(number(0, 4194303)) | target();
                case FAR_DISTANCE: return number(-536870912, 536870911);
                default: return distanceAndAnnul();
            }
        }

        /** Reads the comma behind an operand's bits. */
        private int behind(int bits) {
            expect(',');
            return bits;
        }

        private int target() {
            return registerNumber() << 25;
        }

        private int sources() {
            int first = behind(registerNumber()) << 14;
            if (at < length && line[at] == '%') {
                return first | registerNumber();
            }
            return first | IS_NUMBER | number(-4096, 4095);
        }

        private int distanceAndAnnul() {
            int distance = number(-2097152, 2097151);
            if (!isGood() || at == length) {
                return distance;
            }
            expect(',');
            expect('a');
            return distance | ANNUL;
        }

        private int registerNumber() {
            int from = at;
            expect('%');
            int number = digits(2);
            checkRange(number, 0, REGISTERS - 1, from);
            return number;
        }

        /** The bits of a number that has to fit; each range is as wide as all that its bits can hold. */
        private int number(int least, int greatest) {
            int from = at;
            boolean isNegative = isGood() && at < length && line[at] == '-';
            if (isNegative) {
                at++;
            }
            int size = digits(9);
            int number = isNegative ? -size : size;
            checkRange(number, least, greatest, from);
            return number & greatest - least;
        }

        private void checkRange(int number, int least, int greatest, int from) {
            if (isGood() && (number < least || number > greatest)) {
                wrong = from;
            }
        }

        /** One digit at least. */
        private int digits(int most) {
            if (!isGood()) {
                return 0;
            }
            int from = at;
            int number = 0;
            while (at < length && at - from < most && line[at] >= '0' && line[at] <= '9') {
                number = 10 * number + line[at] - '0';
                at++;
            }
            if (at == from) {
                wrong = at;
            }
            return number;
        }

        private void expect(char letter) {
            if (!isGood()) {
                return;
            }
            if (at < length && line[at] == letter) {
                at++;
            } else {
                wrong = at;
            }
        }

        private boolean isGood() {
            return wrong == NOTHING_WRONG;
        }
    }
}

/**
 * A processor of sixteen bits with its memory, run step by step.
 * The words of the document (REGISTERS, CODES, LINE, M, e, r, i ..) are used here as they are there.
 */
public final class MachineCore {
    public static final int NONE = -1;
    public static final int DONE = 0;
    public static final int HALTED = 1;
    public static final int NO_CODE = 2;

    private static final int FIRST_SEGMENT = 8;
    private static final int IP = 12;
    private static final int FLAGS = 13;
    private static final int LAST_PLACE = (1 << 20) - 1;
    private static final int MOST_STEPS = 500;
    private static final int MOST_LINE = 255;
    private static final int SINGLE_STEP = 1;

    private final Processor processor;
    private int waiting;
    private boolean singleStepDue;
    private boolean gaveSegment;
    private int steps;

    public MachineCore() {
        processor = new Processor();
        waiting = NONE;
    }

    public void set(int r, int v) throws IndexOutOfBoundsException {
        if (r < 0 || r > FLAGS) {
            throw new IndexOutOfBoundsException("no such register");
        }
        if (r == FLAGS) {
            processor.arithmetic.keep(v);
        } else if (r == IP) {
            processor.registers.moveTo(v);
        } else if (r >= FIRST_SEGMENT) {
            processor.registers.setSegment(r - FIRST_SEGMENT, v);
        } else {
            processor.registers.setWord(r, v);
        }
    }

    public int get(int r) throws IndexOutOfBoundsException {
        if (r < 0 || r > FLAGS) {
            throw new IndexOutOfBoundsException("no such register");
        }
        if (r == FLAGS) {
            return processor.arithmetic.flags;
        }
        if (r == IP) {
            return processor.registers.ip;
        }
        return r >= FIRST_SEGMENT ? processor.registers.segment(r - FIRST_SEGMENT) : processor.registers.word(r);
    }

    public void write(int place, int four) throws IndexOutOfBoundsException {
        if (place < 0 || place > LAST_PLACE - 3) {
            throw new IndexOutOfBoundsException("no room for four bytes there");
        }
        for (int i = 0; i < 4; i++) {
            processor.memory.put(place + i, four >> 24 - 8 * i);
        }
    }

    public int byteAt(int place) throws IndexOutOfBoundsException {
        if (place < 0 || place > LAST_PLACE) {
            throw new IndexOutOfBoundsException("no such place");
        }
        return processor.memory.at(place);
    }

    public int port(int p) {
        return processor.portByte(p);
    }

    public void setPort(int p, int v) {
        processor.givePort(p, v);
    }

    public void line(int n) throws IllegalArgumentException {
        if (n > MOST_LINE) {
            throw new IllegalArgumentException("no such interrupt");
        }
        waiting = n < 0 ? NONE : n;
    }

    public int run(int n) throws IllegalArgumentException {
        if (n < 0 || n > MOST_STEPS) {
            throw new IllegalArgumentException("not 0 to 500 steps");
        }
        for (int i = 0; i < n; i++) {
            int due = takeDueInterrupt();
            if (due != NONE) {
                noteInterruptStep();
                processor.interrupt(due);
            } else if (processor.halted) {
                return HALTED;
            } else if (!processor.code.find(processor.memory, processor.registers)) {
                return NO_CODE;
            } else {
                noteCodeStep();
                processor.execute();
            }
        }
        return DONE;
    }

    public int count(int what) throws IllegalArgumentException {
        switch (what) {
            case 0:
                return steps;
            case 1:
                return processor.memory.pages;
            case 2:
                return processor.memory.lost;
            case 3:
                return processor.repetitions;
            default:
                throw new IllegalArgumentException("nothing is counted by this number");
        }
    }

    /** The interrupt that comes before the next code, or NONE; the LINE's number is taken from it. */
    private int takeDueInterrupt() {
        if (singleStepDue) {
            return SINGLE_STEP;
        }
        if (gaveSegment || !processor.arithmetic.has(Arithmetic.INTERRUPT)) {
            return NONE;
        }
        int n = waiting;
        waiting = NONE;
        return n;
    }

    private void noteInterruptStep() {
        processor.halted = false;
        singleStepDue = false;
        gaveSegment = false;
        steps++;
    }

    /** Noted before the code is done, as TRAP counts as it was then. */
    private void noteCodeStep() {
        gaveSegment = processor.code.givesSegment();
        singleStepDue = processor.arithmetic.has(Arithmetic.TRAP) && !gaveSegment;
        steps++;
    }

    /** The bytes that were written, by their pages; all others are 0. */
    private static final class Memory {
        private static final int MOST_PAGES = 256;
        private final byte[] cells = new byte[MOST_PAGES * 256];
        /** By the upper 12 bits of a place: 0 for no page, otherwise the page's number, counted from 1. */
        private final int[] pageNumbers = new int[4096];
        int pages;
        int lost;

        private static int place(int segment, int offset) {
            return (segment << 4) + (offset & 0xFFFF) & 0xFFFFF;
        }

        int at(int place) {
            int number = pageNumbers[place >> 8 & 4095];
            return number == 0 ? 0 : cells[(number - 1 << 8 | place & 255) & 0xFFFF] & 255;
        }

        void put(int place, int v) {
            int upper = place >> 8 & 4095;
            if (pageNumbers[upper] == 0) {
                if (pages == MOST_PAGES) {
                    lost++;
                    return;
                }
                pages++;
                pageNumbers[upper] = pages;
            }
            cells[(pageNumbers[upper] - 1 << 8 | place & 255) & 0xFFFF] = (byte) v;
        }

        int load(int segment, int offset, boolean wide) {
            int lower = at(place(segment, offset));
            return wide ? lower | at(place(segment, offset + 1)) << 8 : lower;
        }

        void store(int segment, int offset, int v, boolean wide) {
            put(place(segment, offset), v);
            if (wide) {
                put(place(segment, offset + 1), v >> 8);
            }
        }
    }

    private static final class Registers {
        static final int A = 0;
        static final int C = 1;
        static final int D = 2;
        static final int B = 3;
        static final int SP = 4;
        static final int BP = 5;
        static final int SI = 6;
        static final int DI = 7;
        /** The number of A's upper half among the byte registers. */
        static final int UPPER_A = 4;
        static final int E_SEGMENT = 0;
        static final int CODE_SEGMENT = 1;
        static final int STACK_SEGMENT = 2;
        static final int DATA_SEGMENT = 3;

        private final int[] words = new int[8];
        private final int[] segments = new int[4];
        int ip;

        int word(int r) {
            return words[r & 7];
        }

        void setWord(int r, int v) {
            words[r & 7] = v & 0xFFFF;
        }

        int segment(int s) {
            return segments[s & 3];
        }

        void setSegment(int s, int v) {
            segments[s & 3] = v & 0xFFFF;
        }

        void moveTo(int place) {
            ip = place & 0xFFFF;
        }

        /** The word register r, or the byte register r. */
        int value(int r, boolean wide) {
            if (wide) {
                return words[r & 7];
            }
            return words[r & 3] >> ((r & 4) == 0 ? 0 : 8) & 255;
        }

        void give(int r, int v, boolean wide) {
            if (wide) {
                words[r & 7] = v & 0xFFFF;
            } else if ((r & 4) == 0) {
                words[r & 3] = words[r & 3] & 0xFF00 | v & 255;
            } else {
                words[r & 3] = words[r & 3] & 255 | (v & 255) << 8;
            }
        }
    }

    /** FLAGS and all that is reckoned with them. */
    private static final class Arithmetic {
        static final int CARRY = 1;
        static final int PARITY = 4;
        static final int HALF = 16;
        static final int ZERO = 64;
        static final int SIGN = 128;
        static final int TRAP = 256;
        static final int INTERRUPT = 512;
        static final int DIRECTION = 1024;
        static final int OVERFLOW = 2048;
        private static final int KEPT =
                CARRY | PARITY | HALF | ZERO | SIGN | TRAP | INTERRUPT | DIRECTION | OVERFLOW;
        static final int COMPARE = 7;
        static final int TEST = 8;
        static final int NEGATE = 11;
        static final int TURN = 12;

        int flags;

        boolean has(int flag) {
            return (flags & flag) != 0;
        }

        void mark(int flag, boolean on) {
            flags = on ? flags | flag : flags & ~flag;
        }

        void keep(int v) {
            flags = v & KEPT;
        }

        private static int mask(boolean wide) {
            return wide ? 0xFFFF : 0xFF;
        }

        private static int highest(boolean wide) {
            return wide ? 0x8000 : 0x80;
        }

        static int signed(int v, boolean wide) {
            return wide ? (short) v : (byte) v;
        }

        /** Hands the answer on. */
        private int byAnswer(int answer, boolean wide) {
            flags &= ~(ZERO | SIGN | PARITY);
            flags |= answer == 0 ? ZERO : 0;
            flags |= (answer & highest(wide)) != 0 ? SIGN : 0;
            flags |= (Integer.bitCount(answer & 255) & 1) == 0 ? PARITY : 0;
            return answer;
        }

        /** The answer of operation o; 7 and 8 answer a. */
        int operation(int o, int a, int b, boolean wide) {
            switch (o) {
                case 0:
                    return sum(a, b, 0, wide);
                case 1:
                    return bits(a | b, wide);
                case 2:
                    return sum(a, b, flags & CARRY, wide);
                case 3:
                    return difference(a, b, flags & CARRY, wide);
                case 4:
                    return bits(a & b, wide);
                case 5:
                    return difference(a, b, 0, wide);
                case 6:
                    return bits(a ^ b, wide);
                case COMPARE:
                    difference(a, b, 0, wide);
                    return a;
                case TEST:
                    bits(a & b, wide);
                    return a;
                case NEGATE:
                    return difference(0, a, 0, wide);
                default:
                    return ~a & mask(wide);
            }
        }

        /** Operation 7 for the flags alone. */
        void compare(int a, int b, boolean wide) {
            difference(a, b, 0, wide);
        }

        /** Operations 9 and 10 (back). */
        int byOne(int a, boolean back, boolean wide) {
            int carry = flags & CARRY;
            int answer = back ? difference(a, 1, 0, wide) : sum(a, 1, 0, wide);
            flags = flags & ~CARRY | carry;
            return answer;
        }

        private int sum(int a, int b, int c, boolean wide) {
            int exact = signed(a, wide) + signed(b, wide) + c;
            return byAnswer(settle(a + b + c, exact, (a & 15) + (b & 15) + c, wide), wide);
        }

        private int difference(int a, int b, int c, boolean wide) {
            int exact = signed(a, wide) - signed(b, wide) - c;
            return byAnswer(settle(a - b - c, exact, (a & 15) - (b & 15) - c, wide), wide);
        }

        /** Takes the same reckoning without signs (all), with them (exact) and of the lowest four bits (four). */
        private int settle(int all, int exact, int four, boolean wide) {
            int answer = all & mask(wide);
            mark(CARRY, all != answer);
            mark(HALF, (four & 15) != four);
            mark(OVERFLOW, exact != signed(answer, wide));
            return answer;
        }

        private int bits(int answer, boolean wide) {
            flags &= ~(CARRY | HALF | OVERFLOW);
            return byAnswer(answer, wide);
        }

        /** times is 0 to 255. */
        int shift(int kind, int a, int times, boolean wide) {
            int answer = a;
            for (int i = 0; i < times; i++) {
                answer = shiftOnce(kind, answer, wide);
            }
            return answer;
        }

        private int shiftOnce(int kind, int a, boolean wide) {
            int highest = highest(wide);
            boolean left = (kind & 1) == 0;
            boolean out = (a & (left ? highest : 1)) != 0;
            boolean in = comesIn(kind, out, (a & highest) != 0);
            int answer = left ? a << 1 & mask(wide) | (in ? 1 : 0) : a >> 1 | (in ? highest : 0);
            mark(CARRY, out);
            mark(OVERFLOW, shiftOverflows(kind, a, answer, highest));
            if (kind >= 4) {
                byAnswer(answer, wide);
            }
            return answer;
        }

        /** The bit that comes to the free place. */
        private boolean comesIn(int kind, boolean out, boolean highestBefore) {
            switch (kind) {
                case 0:
                case 1:
                    return out;
                case 2:
                case 3:
                    return has(CARRY);
                case 7:
                    return highestBefore;
                default:
                    return false;
            }
        }

        private boolean shiftOverflows(int kind, int a, int answer, int highest) {
            switch (kind) {
                case 1:
                case 3:
                    return ((answer ^ answer << 1) & highest) != 0;
                case 5:
                    return (a & highest) != 0;
                case 7:
                    return false;
                default:
                    return has(CARRY) != ((answer & highest) != 0);
            }
        }

        /** Twice as long as a and b. */
        int product(int a, int b, boolean wide, boolean withSigns) {
            long all = withSigns ? (long) signed(a, wide) * signed(b, wide) : (long) a * b;
            int lower = (int) all & mask(wide);
            boolean longer = all != (withSigns ? signed(lower, wide) : lower);
            mark(CARRY, longer);
            mark(OVERFLOW, longer);
            return (int) all;
        }

        /** Whether a quotient is an operand. */
        static boolean fits(long quotient, boolean wide, boolean withSigns) {
            long most = withSigns ? highest(wide) - 1 : mask(wide);
            return quotient <= most && quotient >= (withSigns ? -most : 0);
        }

        /** Adjustment 4 is asked for with a base that is not 0 alone. */
        int adjustment(int kind, int word, int base) {
            switch (kind) {
                case 0:
                    return decimal(word, 1);
                case 1:
                    return decimal(word, -1);
                case 2:
                    return unpacked(word, 1);
                case 3:
                    return unpacked(word, -1);
                case 4:
                    return parts(word & 255, base);
                default:
                    return whole(word, base);
            }
        }

        private int decimal(int word, int sign) {
            int l = word & 255;
            boolean six = (l & 15) > 9 || has(HALF);
            boolean ninetySix = l > 153 || has(CARRY);
            boolean below = sign < 0 && six && l < 6;
            int answer = l + sign * ((six ? 6 : 0) + (ninetySix ? 96 : 0)) & 255;
            mark(HALF, six);
            mark(CARRY, ninetySix || below);
            byAnswer(answer, false);
            return word & 0xFF00 | answer;
        }

        private int unpacked(int word, int sign) {
            boolean six = (word & 15) > 9 || has(HALF);
            int l = word + (six ? 6 * sign : 0) & 15;
            int h = (word >> 8) + (six ? sign : 0) & 255;
            mark(HALF, six);
            mark(CARRY, six);
            return h << 8 | l;
        }

        private int parts(int l, int base) {
            if (base == 0) {
                return l;
            }
            byAnswer(l % base, false);
            return l / base << 8 | l % base;
        }

        private int whole(int word, int base) {
            int l = (word >> 8) * base + word & 255;
            byAnswer(l, false);
            return l;
        }

        boolean holds(int condition) {
            boolean odd = (condition & 1) != 0;
            return pairHolds(condition >> 1) != odd;
        }

        private boolean pairHolds(int pair) {
            boolean less = has(SIGN) != has(OVERFLOW);
            switch (pair) {
                case 0:
                    return has(OVERFLOW);
                case 1:
                    return has(CARRY);
                case 2:
                    return has(ZERO);
                case 3:
                    return has(CARRY) || has(ZERO);
                case 4:
                    return has(SIGN);
                case 5:
                    return has(PARITY);
                case 6:
                    return less;
                default:
                    return less || has(ZERO);
            }
        }
    }

    /** One code with its prefixes, taken apart before any of it is done: a NO CODE must change nothing. */
    private static final class Code {
        private static final int MOST_BYTES = 15;
        private static final int BYTE = 1;
        private static final int WORD = 2;
        private static final int M = 3;
        private static final int M_BYTE = 4;
        private static final int M_WORD = 5;
        private static final int TWO_WORDS = 6;
        /** F6, F7: what follows M follows for r 0 and 1 alone. */
        private static final int M_BYTE_BY_R = 7;
        private static final int M_WORD_BY_R = 8;
        private static final int PREFIX = 9;

        /** What follows each code (one of the numbers above; 0: nothing), a row for each upper half of its byte. */
        private static final int[] FORMS = {
            3, 3, 3, 3, 1, 2, 0, 0, 3, 3, 3, 3, 1, 2, 0, 0,
            3, 3, 3, 3, 1, 2, 0, 0, 3, 3, 3, 3, 1, 2, 0, 0,
            3, 3, 3, 3, 1, 2, 9, 0, 3, 3, 3, 3, 1, 2, 9, 0,
            3, 3, 3, 3, 1, 2, 9, 0, 3, 3, 3, 3, 1, 2, 9, 0,
            0, 0, 0, 0, 0, 0, 0, 0, 0, 0, 0, 0, 0, 0, 0, 0,
            0, 0, 0, 0, 0, 0, 0, 0, 0, 0, 0, 0, 0, 0, 0, 0,
            1, 1, 1, 1, 1, 1, 1, 1, 1, 1, 1, 1, 1, 1, 1, 1,
            1, 1, 1, 1, 1, 1, 1, 1, 1, 1, 1, 1, 1, 1, 1, 1,
            4, 5, 4, 4, 3, 3, 3, 3, 3, 3, 3, 3, 3, 3, 3, 3,
            0, 0, 0, 0, 0, 0, 0, 0, 0, 0, 6, 0, 0, 0, 0, 0,
            2, 2, 2, 2, 0, 0, 0, 0, 1, 2, 0, 0, 0, 0, 0, 0,
            1, 1, 1, 1, 1, 1, 1, 1, 2, 2, 2, 2, 2, 2, 2, 2,
            2, 0, 2, 0, 3, 3, 4, 5, 2, 0, 2, 0, 0, 1, 0, 0,
            3, 3, 3, 3, 1, 1, 0, 0, 3, 3, 3, 3, 3, 3, 3, 3,
            1, 1, 1, 1, 1, 1, 1, 1, 2, 2, 6, 1, 0, 0, 0, 0,
            9, 9, 9, 9, 0, 0, 7, 8, 0, 0, 0, 0, 0, 0, 3, 3,
        };

        /** Where it begins with its prefixes. */
        int begin;
        int number;
        /** The SEGMENT of a prefix, or NONE. */
        private int givenSegment;
        /** F2 or F3, or NONE. */
        int repeat;
        int mode;
        int r;
        int m;
        /** Where e is, if it is in memory. */
        int eSegment;
        int offset;
        int first;
        int second;
        private int fetched;

        boolean wide() {
            return (number & 1) != 0;
        }

        boolean givesSegment() {
            return (number & 0xE7) == 7 || number == 0x8E;
        }

        boolean isString() {
            return number >= 0xA4 && number <= 0xAF && number != 0xA8 && number != 0xA9;
        }

        /** A6, A7, AE, AF, when it is a string. */
        boolean compares() {
            return (number & 6) == 6;
        }

        boolean inRegister() {
            return mode == 3;
        }

        int segmentOr(int usual) {
            return givenSegment == NONE ? usual : givenSegment;
        }

        /** Whether a code is at CODE and IP; IP is behind it then, otherwise where it was. */
        boolean find(Memory memory, Registers registers) {
            begin = registers.ip;
            fetched = 0;
            givenSegment = NONE;
            repeat = NONE;
            fetchNumber(memory, registers);
            fetchRest(memory, registers);
            boolean found = fetched <= MOST_BYTES && formOf(number) != PREFIX && isCode();
            if (!found) {
                registers.moveTo(begin);
            }
            return found;
        }

        private static int formOf(int number) {
            return FORMS[number & 255];
        }

        private int fetch(Memory memory, Registers registers) {
            int v = memory.load(registers.segment(Registers.CODE_SEGMENT), registers.ip, false);
            registers.moveTo(registers.ip + 1);
            fetched++;
            return v;
        }

        private int fetchWord(Memory memory, Registers registers) {
            int lower = fetch(memory, registers);
            return lower | fetch(memory, registers) << 8;
        }

        /** Ends at a prefix when MOST_BYTES of them came. */
        private void fetchNumber(Memory memory, Registers registers) {
            number = fetch(memory, registers);
            for (int i = 1; i < MOST_BYTES && formOf(number) == PREFIX; i++) {
                keepPrefix();
                number = fetch(memory, registers);
            }
        }

        private void keepPrefix() {
            if (number < 0x40) {
                givenSegment = number >> 3 & 3;
            } else if (number >= 0xF2) {
                repeat = number;
            }
        }

        private void fetchRest(Memory memory, Registers registers) {
            int form = formOf(number);
            if (hasM(form)) {
                fetchM(memory, registers);
            }
            if (form == BYTE || form == M_BYTE || form == M_BYTE_BY_R && r < 2) {
                first = fetch(memory, registers);
            } else if (form == WORD || form == M_WORD || form == M_WORD_BY_R && r < 2) {
                first = fetchWord(memory, registers);
            } else if (form == TWO_WORDS) {
                first = fetchWord(memory, registers);
                second = fetchWord(memory, registers);
            }
        }

        private static boolean hasM(int form) {
            return form == M || form == M_BYTE || form == M_WORD || form == M_BYTE_BY_R || form == M_WORD_BY_R;
        }

        private void fetchM(Memory memory, Registers registers) {
            int all = fetch(memory, registers);
            mode = all >> 6;
            r = all >> 3 & 7;
            m = all & 7;
            if (mode == 0 && m == 6) {
                eSegment = registers.segment(segmentOr(Registers.DATA_SEGMENT));
                offset = fetchWord(memory, registers);
                return;
            }
            boolean withBP = m == 2 || m == 3 || m == 6;
            eSegment = registers.segment(segmentOr(withBP ? Registers.STACK_SEGMENT : Registers.DATA_SEGMENT));
            int displacement = 0;
            if (mode == 1) {
                displacement = Arithmetic.signed(fetch(memory, registers), false);
            } else if (mode == 2) {
                displacement = fetchWord(memory, registers);
            }
            offset = base(registers) + displacement & 0xFFFF;
        }

        private int base(Registers registers) {
            switch (m) {
                case 0:
                    return registers.word(Registers.B) + registers.word(Registers.SI);
                case 1:
                    return registers.word(Registers.B) + registers.word(Registers.DI);
                case 2:
                    return registers.word(Registers.BP) + registers.word(Registers.SI);
                case 3:
                    return registers.word(Registers.BP) + registers.word(Registers.DI);
                case 4:
                    return registers.word(Registers.SI);
                case 5:
                    return registers.word(Registers.DI);
                case 6:
                    return registers.word(Registers.BP);
                default:
                    return registers.word(Registers.B);
            }
        }

        private boolean isCode() {
            switch (number) {
                case 0x8D:
                case 0xC4:
                case 0xC5:
                    return !inRegister();
                case 0xFE:
                    return r < 2;
                case 0xFF:
                    return !inRegister() || r != 3 && r != 5;
                default:
                    return true;
            }
        }
    }

    /** Does the codes, upon registers, memory and ports. */
    private static final class Processor {
        private static final int MOST_REPETITIONS = 64;
        private static final int REPEAT_WHILE_ZERO = 0xF3;
        private static final int SET_WHEN_PUSHED = 0xF002;
        private static final int DIVISION_INTERRUPT = 0;
        private static final int BREAK_INTERRUPT = 3;
        private static final int OVERFLOW_INTERRUPT = 4;

        final Memory memory = new Memory();
        final Registers registers = new Registers();
        final Arithmetic arithmetic = new Arithmetic();
        final Code code = new Code();
        private final byte[] ports = new byte[256];
        boolean halted;
        int repetitions;
        /** The interrupt that the code in hand calls, or NONE. */
        private int called = NONE;

        int portByte(int p) {
            return ports[p & 255] & 255;
        }

        void givePort(int p, int v) {
            ports[p & 255] = (byte) v;
        }

        void execute() {
            called = NONE;
            switch (code.number >> 4) {
                case 0:
                case 1:
                case 2:
                case 3:
                    operationCodes();
                    break;
                case 4:
                    stepWordRegister();
                    break;
                case 5:
                    registerStackCodes();
                    break;
                case 6:
                case 7:
                    jumpIf(arithmetic.holds(code.number & 15));
                    break;
                case 8:
                    operandCodes();
                    break;
                case 9:
                    exchangeAndFlagCodes();
                    break;
                case 10:
                    if (code.isString()) {
                        strings();
                    } else {
                        placeCodes();
                    }
                    break;
                case 11:
                    registers.give(code.number, code.first, (code.number & 8) != 0);
                    break;
                case 12:
                    returnCodes();
                    break;
                case 13:
                    shiftAndAdjustCodes();
                    break;
                case 14:
                    loopAndPortCodes();
                    break;
                default:
                    lastCodes();
                    break;
            }
            if (called != NONE) {
                interrupt(called);
            }
        }

        void interrupt(int n) {
            push(pushedFlags());
            arithmetic.mark(Arithmetic.INTERRUPT, false);
            arithmetic.mark(Arithmetic.TRAP, false);
            push(registers.segment(Registers.CODE_SEGMENT));
            push(registers.ip);
            registers.moveTo(memory.load(0, 4 * n, true));
            registers.setSegment(Registers.CODE_SEGMENT, memory.load(0, 4 * n + 2, true));
        }

        private int pushedFlags() {
            return arithmetic.flags | SET_WHEN_PUSHED;
        }

        private void push(int v) {
            registers.setWord(Registers.SP, registers.word(Registers.SP) - 2);
            memory.store(registers.segment(Registers.STACK_SEGMENT), registers.word(Registers.SP), v, true);
        }

        /** Word register r as it is pushed: SP itself as it is after its own change. */
        private int pushedRegister(int r) {
            return r == Registers.SP ? registers.word(r) - 2 : registers.word(r);
        }

        private int pop() {
            int sp = registers.word(Registers.SP);
            registers.setWord(Registers.SP, sp + 2);
            return memory.load(registers.segment(Registers.STACK_SEGMENT), sp, true);
        }

        /** What the SEGMENT of a prefix holds, or without one the usual one. */
        private int segmentFor(int usual) {
            return registers.segment(code.segmentOr(usual));
        }

        /** The operand e. */
        private int e(boolean wide) {
            return code.inRegister() ? registers.value(code.m, wide)
                    : memory.load(code.eSegment, code.offset, wide);
        }

        private void giveE(int v, boolean wide) {
            if (code.inRegister()) {
                registers.give(code.m, v, wide);
            } else {
                memory.store(code.eSegment, code.offset, v, wide);
            }
        }

        /** The word in memory two places behind e. */
        private int wordBehindE() {
            return memory.load(code.eSegment, code.offset + 2, true);
        }

        private int a(boolean wide) {
            return registers.value(Registers.A, wide);
        }

        private void giveA(int v, boolean wide) {
            registers.give(Registers.A, v, wide);
        }

        private void operateE(int o, int b, boolean wide) {
            int answer = arithmetic.operation(o, e(wide), b, wide);
            if (o != Arithmetic.COMPARE && o != Arithmetic.TEST) {
                giveE(answer, wide);
            }
        }

        private void jump(int distance) {
            registers.moveTo(registers.ip + distance);
        }

        private void jumpIf(boolean holds) {
            if (holds) {
                jump(Arithmetic.signed(code.first, false));
            }
        }

        private void jumpFar(int ip, int segment) {
            registers.moveTo(ip);
            registers.setSegment(Registers.CODE_SEGMENT, segment);
        }

        private void callFar(int ip, int segment) {
            push(registers.segment(Registers.CODE_SEGMENT));
            push(registers.ip);
            jumpFar(ip, segment);
        }

        /** 00 to 3F. */
        private void operationCodes() {
            int n = code.number;
            int o = n >> 3 & 7;
            boolean wide = code.wide();
            switch (n & 7) {
                case 0:
                case 1:
                    operateE(o, registers.value(code.r, wide), wide);
                    break;
                case 2:
                case 3:
                    registers.give(code.r, arithmetic.operation(o, registers.value(code.r, wide), e(wide), wide), wide);
                    break;
                case 4:
                case 5:
                    giveA(arithmetic.operation(o, a(wide), code.first, wide), wide);
                    break;
                case 6:
                    push(registers.segment(o));
                    break;
                default:
                    if (n < 0x20) {
                        registers.setSegment(o, pop());
                    } else {
                        giveA(arithmetic.adjustment(o & 3, a(true), 0), true);
                    }
                    break;
            }
        }

        /** 40 to 4F. */
        private void stepWordRegister() {
            int answer = arithmetic.byOne(registers.word(code.number), (code.number & 8) != 0, true);
            registers.setWord(code.number, answer);
        }

        /** 50 to 5F. */
        private void registerStackCodes() {
            if ((code.number & 8) == 0) {
                push(pushedRegister(code.number & 7));
            } else {
                registers.setWord(code.number, pop());
            }
        }

        /** 80 to 8F. */
        private void operandCodes() {
            boolean wide = code.wide();
            switch (code.number) {
                case 0x80:
                case 0x81:
                case 0x82:
                    operateE(code.r, code.first, wide);
                    break;
                case 0x83:
                    operateE(code.r, Arithmetic.signed(code.first, false) & 0xFFFF, true);
                    break;
                case 0x84:
                case 0x85:
                    operateE(Arithmetic.TEST, registers.value(code.r, wide), wide);
                    break;
                case 0x86:
                case 0x87:
                    exchangeE(wide);
                    break;
                case 0x88:
                case 0x89:
                    giveE(registers.value(code.r, wide), wide);
                    break;
                case 0x8A:
                case 0x8B:
                    registers.give(code.r, e(wide), wide);
                    break;
                case 0x8C:
                    giveE(registers.segment(code.r), true);
                    break;
                case 0x8D:
                    registers.setWord(code.r, code.offset);
                    break;
                case 0x8E:
                    registers.setSegment(code.r, e(true));
                    break;
                default:
                    giveE(pop(), true);
                    break;
            }
        }

        private void exchangeE(boolean wide) {
            int before = e(wide);
            giveE(registers.value(code.r, wide), wide);
            registers.give(code.r, before, wide);
        }

        /** 90 to 9F. */
        private void exchangeAndFlagCodes() {
            switch (code.number) {
                case 0x98:
                    giveA(Arithmetic.signed(a(false), false), true);
                    break;
                case 0x99:
                    registers.setWord(Registers.D, Arithmetic.signed(a(true), true) >> 16);
                    break;
                case 0x9A:
                    callFar(code.first, code.second);
                    break;
                case 0x9B:
                    break;
                case 0x9C:
                    push(pushedFlags());
                    break;
                case 0x9D:
                    arithmetic.keep(pop());
                    break;
                case 0x9E:
                    arithmetic.keep(arithmetic.flags & 0xFF00 | registers.value(Registers.UPPER_A, false));
                    break;
                case 0x9F:
                    registers.give(Registers.UPPER_A, arithmetic.flags | 2, false);
                    break;
                default:
                    exchangeA(code.number & 7);
                    break;
            }
        }

        private void exchangeA(int r) {
            int before = a(true);
            giveA(registers.word(r), true);
            registers.setWord(r, before);
        }

        /** A0 to A3, A8 and A9. */
        private void placeCodes() {
            boolean wide = code.wide();
            int segment = segmentFor(Registers.DATA_SEGMENT);
            if (code.number >= 0xA8) {
                arithmetic.operation(Arithmetic.TEST, a(wide), code.first, wide);
            } else if (code.number >= 0xA2) {
                memory.store(segment, code.first, a(wide), wide);
            } else {
                giveA(memory.load(segment, code.first, wide), wide);
            }
        }

        private void strings() {
            if (code.repeat == NONE) {
                stringOnce();
                return;
            }
            boolean wanted = code.repeat == REPEAT_WHILE_ZERO;
            for (int i = 0; i < MOST_REPETITIONS && registers.word(Registers.C) != 0; i++) {
                registers.setWord(Registers.C, registers.word(Registers.C) - 1);
                repetitions++;
                stringOnce();
                if (code.compares() && arithmetic.has(Arithmetic.ZERO) != wanted) {
                    return;
                }
            }
            if (registers.word(Registers.C) != 0) {
                registers.moveTo(code.begin);
            }
        }

        private void stringOnce() {
            boolean wide = code.wide();
            int si = registers.word(Registers.SI);
            int di = registers.word(Registers.DI);
            int source = segmentFor(Registers.DATA_SEGMENT);
            int target = registers.segment(Registers.E_SEGMENT);
            switch (code.number >> 1 & 7) {
                case 2:
                    memory.store(target, di, memory.load(source, si, wide), wide);
                    passSource();
                    passTarget();
                    break;
                case 3:
                    arithmetic.compare(memory.load(source, si, wide), memory.load(target, di, wide), wide);
                    passSource();
                    passTarget();
                    break;
                case 5:
                    memory.store(target, di, a(wide), wide);
                    passTarget();
                    break;
                case 6:
                    giveA(memory.load(source, si, wide), wide);
                    passSource();
                    break;
                default:
                    arithmetic.compare(a(wide), memory.load(target, di, wide), wide);
                    passTarget();
                    break;
            }
        }

        private void passSource() {
            registers.setWord(Registers.SI, registers.word(Registers.SI) + stringStride());
        }

        private void passTarget() {
            registers.setWord(Registers.DI, registers.word(Registers.DI) + stringStride());
        }

        private int stringStride() {
            int bytes = code.wide() ? 2 : 1;
            return arithmetic.has(Arithmetic.DIRECTION) ? -bytes : bytes;
        }

        /** C0 to CF. */
        private void returnCodes() {
            switch (code.number) {
                case 0xC0:
                case 0xC2:
                    returnNear(code.first);
                    break;
                case 0xC1:
                case 0xC3:
                    returnNear(0);
                    break;
                case 0xC4:
                    giveFar(Registers.E_SEGMENT);
                    break;
                case 0xC5:
                    giveFar(Registers.DATA_SEGMENT);
                    break;
                case 0xC6:
                case 0xC7:
                    giveE(code.first, code.wide());
                    break;
                case 0xC8:
                case 0xCA:
                    returnFar(code.first);
                    break;
                case 0xC9:
                case 0xCB:
                    returnFar(0);
                    break;
                case 0xCC:
                    called = BREAK_INTERRUPT;
                    break;
                case 0xCD:
                    called = code.first;
                    break;
                case 0xCE:
                    called = arithmetic.has(Arithmetic.OVERFLOW) ? OVERFLOW_INTERRUPT : NONE;
                    break;
                default:
                    returnFar(0);
                    arithmetic.keep(pop());
                    break;
            }
        }

        private void returnNear(int n) {
            registers.moveTo(pop());
            registers.setWord(Registers.SP, registers.word(Registers.SP) + n);
        }

        private void returnFar(int n) {
            registers.moveTo(pop());
            registers.setSegment(Registers.CODE_SEGMENT, pop());
            registers.setWord(Registers.SP, registers.word(Registers.SP) + n);
        }

        private void giveFar(int segment) {
            int behind = wordBehindE();
            registers.setWord(code.r, e(true));
            registers.setSegment(segment, behind);
        }

        /** D0 to DF; from D8 on nothing is done. */
        private void shiftAndAdjustCodes() {
            boolean wide = code.wide();
            switch (code.number) {
                case 0xD0:
                case 0xD1:
                    giveE(arithmetic.shift(code.r, e(wide), 1, wide), wide);
                    break;
                case 0xD2:
                case 0xD3:
                    giveE(arithmetic.shift(code.r, e(wide), registers.value(Registers.C, false), wide), wide);
                    break;
                case 0xD4:
                    if (code.first == 0) {
                        called = DIVISION_INTERRUPT;
                    } else {
                        giveA(arithmetic.adjustment(4, a(true), code.first), true);
                    }
                    break;
                case 0xD5:
                    giveA(arithmetic.adjustment(5, a(true), code.first), true);
                    break;
                case 0xD6:
                    giveA(arithmetic.has(Arithmetic.CARRY) ? 255 : 0, false);
                    break;
                case 0xD7:
                    int offset = registers.word(Registers.B) + a(false);
                    giveA(memory.load(segmentFor(Registers.DATA_SEGMENT), offset, false), false);
                    break;
                default:
                    break;
            }
        }

        /** E0 to EF. */
        private void loopAndPortCodes() {
            switch (code.number) {
                case 0xE0:
                case 0xE1:
                case 0xE2:
                    loop();
                    break;
                case 0xE3:
                    jumpIf(registers.word(Registers.C) == 0);
                    break;
                case 0xE8:
                    push(registers.ip);
                    jump(code.first);
                    break;
                case 0xE9:
                    jump(code.first);
                    break;
                case 0xEA:
                    jumpFar(code.first, code.second);
                    break;
                case 0xEB:
                    jumpIf(true);
                    break;
                default:
                    usePort(code.number < 0xE8 ? code.first : registers.word(Registers.D));
                    break;
            }
        }

        private void loop() {
            registers.setWord(Registers.C, registers.word(Registers.C) - 1);
            boolean zeroFits = code.number == 0xE2
                    || arithmetic.has(Arithmetic.ZERO) == (code.number == 0xE1);
            jumpIf(registers.word(Registers.C) != 0 && zeroFits);
        }

        private void usePort(int p) {
            boolean wide = code.wide();
            boolean out = (code.number & 2) != 0;
            if (!out) {
                giveA(wide ? portByte(p) | portByte(p + 1) << 8 : portByte(p), wide);
                return;
            }
            givePort(p, a(false));
            if (wide) {
                givePort(p + 1, a(true) >> 8);
            }
        }

        /** F4 to FF. */
        private void lastCodes() {
            boolean odd = code.wide();
            switch (code.number) {
                case 0xF4:
                    halted = true;
                    break;
                case 0xF5:
                    arithmetic.mark(Arithmetic.CARRY, !arithmetic.has(Arithmetic.CARRY));
                    break;
                case 0xF6:
                case 0xF7:
                    codesF6();
                    break;
                case 0xF8:
                case 0xF9:
                    arithmetic.mark(Arithmetic.CARRY, odd);
                    break;
                case 0xFA:
                case 0xFB:
                    arithmetic.mark(Arithmetic.INTERRUPT, odd);
                    break;
                case 0xFC:
                case 0xFD:
                    arithmetic.mark(Arithmetic.DIRECTION, odd);
                    break;
                default:
                    codesFE();
                    break;
            }
        }

        /** F6 and F7, by r. */
        private void codesF6() {
            boolean wide = code.wide();
            switch (code.r) {
                case 0:
                case 1:
                    arithmetic.operation(Arithmetic.TEST, e(wide), code.first, wide);
                    break;
                case 2:
                    giveE(arithmetic.operation(Arithmetic.TURN, e(wide), 0, wide), wide);
                    break;
                case 3:
                    giveE(arithmetic.operation(Arithmetic.NEGATE, e(wide), 0, wide), wide);
                    break;
                case 4:
                case 5:
                    multiply(code.r == 5);
                    break;
                default:
                    divide(code.r == 7);
                    break;
            }
        }

        private void multiply(boolean withSigns) {
            boolean wide = code.wide();
            int all = arithmetic.product(a(wide), e(wide), wide, withSigns);
            giveA(all, true);
            if (wide) {
                registers.setWord(Registers.D, all >> 16);
            }
        }

        private void divide(boolean withSigns) {
            boolean wide = code.wide();
            long by = withSigns ? Arithmetic.signed(e(wide), wide) : e(wide);
            if (by == 0) {
                called = DIVISION_INTERRUPT;
                return;
            }
            long number = dividend(wide, withSigns);
            long quotient = number / by;
            if (!Arithmetic.fits(quotient, wide, withSigns)) {
                called = DIVISION_INTERRUPT;
                return;
            }
            giveA((int) quotient, wide);
            registers.give(wide ? Registers.D : Registers.UPPER_A, (int) (number % by), wide);
        }

        private long dividend(boolean wide, boolean withSigns) {
            if (!wide) {
                return withSigns ? Arithmetic.signed(a(true), true) : a(true);
            }
            int both = registers.word(Registers.D) << 16 | a(true);
            return withSigns ? both : both & 0xFFFFFFFFL;
        }

        /** FE and FF, by r; e is a word from r 2 on. */
        private void codesFE() {
            boolean wide = code.wide();
            switch (code.r) {
                case 0:
                case 1:
                    giveE(arithmetic.byOne(e(wide), code.r == 1, wide), wide);
                    break;
                case 2:
                    int to = e(true);
                    push(registers.ip);
                    registers.moveTo(to);
                    break;
                case 3:
                    callFar(e(true), wordBehindE());
                    break;
                case 4:
                    registers.moveTo(e(true));
                    break;
                case 5:
                    jumpFar(e(true), wordBehindE());
                    break;
                default:
                    push(code.inRegister() ? pushedRegister(code.m) : e(true));
                    break;
            }
        }
    }
}
